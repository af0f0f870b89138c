/-! ===== reading a value, as it should be ===== -/
def wk (i : tI) (s : List Int) : tI := (i.1, i.2.1, i.2.2.1, s)
/-- a value, so many lists and objects around it; or, an object or a list being read, what comes behind what is in it by now -/
def sP (T : Int → Int) (n : Int) : Nat → ((Nat × Int) ⊕ (Bool × Nat × FT × Int)) → Int ⊕ (tI × FT × Int)
  | 0, .inl (_, p) => .inl p
  | 0, .inr (_, _, _, p) => .inl p
  | f + 1, .inl (a, p) => if tH T n p = 91 ∨ tH T n p = 123 then (if a = 4 then .inl p else if tH T n (p + 1) = (if tH T n p = 91 then 93 else 125) then .inr ((if tH T n p = 91 then 5 else 6, 0, [], []), .leaf, p + 1 + 1) else (match sP T n f (.inr (decide (tH T n p = 123), a, .leaf, p + 1)) with
      | .inl e => .inl e
      | .inr (_, F, q) => .inr ((if tH T n p = 91 then 5 else 6, 0, [], []), F, q))) else (match sPlain T n p with
      | .inl e => .inl e
      | .inr (i, q) => .inr (i, .leaf, q))
  | f + 1, .inr (ob, a, F, p) => match sName ob T n p with
      | .inl e => .inl e
      | .inr (s, p1) => (match sP T n f (.inl (a + 1, p1)) with
        | .inl e => .inl e
        | .inr (i, c, q) => if tH T n q = 44 then sP T n f (.inr (ob, a, fput ob (wk i s) c F, q + 1)) else if tH T n q = (if ob = true then 125 else 93) then .inr ((0, 0, [], []), fput ob (wk i s) c F, q + 1) else .inl q)
theorem spn_dig {T : Int → Int} {n : Int} : ∀ (k : Nat) (p : Int), ∀ c ∈ spn pD T n k p, 48 ≤ c ∧ c ≤ 57 := by
  intro k
  induction k with
  | zero => intro p c hc; exact absurd hc List.not_mem_nil
  | succ k ih =>
    intro p c hc
    unfold spn at hc
    split at hc
    · rename_i hP
      rcases List.mem_cons.mp hc with rfl | hc
      · exact of_decide_eq_true hP
      · exact ih _ c hc
    · exact absurd hc List.not_mem_nil
theorem dg_b : ∀ (l : List Int) (v : Int) (B : Int), (∀ c ∈ l, 48 ≤ c ∧ c ≤ 57) → 0 ≤ v → v < B → 0 ≤ l.foldl (fun v c => 10 * v + c - 48) v ∧ l.foldl (fun v c => 10 * v + c - 48) v < B * 10 ^ l.length
  | [], v, B, _, h0, h1 => ⟨h0, by show v < B * 1; omega⟩
  | c :: l, v, B, hc, h0, h1 => by
    have := hc c List.mem_cons_self
    have k := dg_b l (10 * v + c - 48) (10 * B) (fun c h => hc c (List.mem_cons_of_mem _ h)) (by omega) (by omega)
    refine ⟨k.1, ?_⟩
    have e : B * 10 ^ (c :: l).length = 10 * B * 10 ^ l.length := by
      rw [List.length_cons, Int.pow_succ, Int.mul_comm (10 ^ l.length) 10, ← Int.mul_assoc, Int.mul_comm B 10]
    rw [e]
    exact k.2
theorem sNum_ok {T : Int → Int} {n p : Int} (ht : tOK T n) (h0 : 0 ≤ p) (hp : p ≤ n) {x q : Int} (h : sNum T n p = .inr (x, q)) : p < q ∧ q ≤ n ∧ -1000000 < x ∧ x < 1000000 := by
  have hh := tH_r (p := p) ht h0
  unfold sNum at h
  obtain ⟨p2, hp2⟩ : ∃ p2, p2 = if tH T n p = 45 then p + 1 else p := ⟨_, rfl⟩
  rw [← hp2] at h
  have hb : p ≤ p2 ∧ p2 ≤ n := by
    rw [hp2]
    split
    · have := hh.2.2.2 (by omega)
      omega
    · omega
  obtain ⟨r, hr⟩ : ∃ r, r = spn pD T n 7 p2 := ⟨_, rfl⟩
  rw [← hr] at h
  have h3 := spn_in (P := pD) (T := T) (n := n) (by decide) 7 p2 hb.2
  have h4 := spn_le (P := pD) (T := T) (n := n) 7 p2
  rw [← hr] at h3 h4
  split at h
  · cases h
  · split at h
    · cases h
    · rename_i h1 h2
      have hd := dg_b r 0 1 (fun c hc => by rw [hr] at hc; exact spn_dig 7 p2 c hc) (by omega) (by omega)
      have hd2 : dg r < 1000000 := by
        have e := p10m 6 (by decide) r.length (by omega)
        have e6 : (10 : Int) ^ 6 = 1000000 := by decide
        have hd3 : dg r < 1 * 10 ^ r.length := hd.2
        omega
      have hd1 : 0 ≤ dg r := hd.1
      cases h
      refine ⟨by omega, by omega, ?_⟩
      split <;> omega
theorem sNum_er {T : Int → Int} {n p : Int} (ht : tOK T n) (h0 : 0 ≤ p) (hp : p ≤ n) {e : Int} (h : sNum T n p = .inl e) : p ≤ e ∧ e ≤ n := by
  have hh := tH_r (p := p) ht h0
  unfold sNum at h
  obtain ⟨p2, hp2⟩ : ∃ p2, p2 = if tH T n p = 45 then p + 1 else p := ⟨_, rfl⟩
  rw [← hp2] at h
  have hb : p ≤ p2 ∧ p2 ≤ n := by
    rw [hp2]
    split
    · have := hh.2.2.2 (by omega)
      omega
    · omega
  have h3 := spn_in (P := pD) (T := T) (n := n) (by decide) 7 p2 hb.2
  split at h
  · cases h
    exact hb
  · split at h
    · rename_i h1 h2
      cases h
      omega
    · cases h
theorem spn_txt {T : Int → Int} {n : Int} (ht : tOK T n) : ∀ (k : Nat) (p : Int), 0 ≤ p → ∀ c ∈ spn pX T n k p, 1 ≤ c ∧ c ≤ 127 := by
  intro k
  induction k with
  | zero => intro p _ c hc; exact absurd hc List.not_mem_nil
  | succ k ih =>
    intro p hp c hc
    unfold spn at hc
    split at hc
    · rename_i hP
      rcases List.mem_cons.mp hc with rfl | hc
      · have h1 := of_decide_eq_true hP
        have h2 := tH_r (p := p) ht hp
        omega
      · exact ih _ (by omega) c hc
    · exact absurd hc List.not_mem_nil
theorem sText_ok {T : Int → Int} {n p : Int} (ht : tOK T n) (h0 : 0 ≤ p) (hp : p < n) {s : List Int} {q : Int} (h : sText T n p = .inr (s, q)) : p < q ∧ q ≤ n ∧ tx s := by
  unfold sText at h
  have h3 := spn_in (P := pX) (T := T) (n := n) (by decide) 8 (p + 1) (by omega)
  have h4 := spn_le (P := pX) (T := T) (n := n) 8 (p + 1)
  split at h
  · cases h
  · rename_i h1
    split at h
    · rename_i h2
      cases h
      have hh := tH_r (p := p + 1 + (spn pX T n 8 (p + 1)).length) ht (by omega)
      have := hh.2.2.2 (by omega)
      exact ⟨by omega, by omega, by omega, spn_txt ht 8 (p + 1) (by omega)⟩
    · cases h
theorem sText_er {T : Int → Int} {n p : Int} (h0 : 0 ≤ p) (hp : p < n) {e : Int} (h : sText T n p = .inl e) : p ≤ e ∧ e ≤ n := by
  unfold sText at h
  have h3 := spn_in (P := pX) (T := T) (n := n) (by decide) 8 (p + 1) (by omega)
  split at h
  · cases h
    omega
  · split at h
    · cases h
    · cases h
      omega
theorem sKey_er {T : Int → Int} {n p : Int} (hp : p ≤ n) {e : Int} (h : sKey T n p = .inl e) : p ≤ e ∧ e ≤ n := by
  unfold sKey at h
  have h3 := spn_in (P := pL) (T := T) (n := n) (by decide) 8 p hp
  split at h
  · cases h
    omega
  · split at h
    · cases h
      omega
    · cases h
theorem sName_ok {ob : Bool} {T : Int → Int} {n p : Int} (ht : tOK T n) (h0 : 0 ≤ p) (hp : p ≤ n) {s : List Int} {q : Int} (h : sName ob T n p = .inr (s, q)) : p ≤ q ∧ q ≤ n ∧ tx s := by
  unfold sName at h
  cases ob with
  | false =>
    cases h
    exact ⟨Int.le_refl p, hp, by decide, fun c hc => absurd hc List.not_mem_nil⟩
  | true =>
    dsimp only [cond] at h
    cases hx : sKey T n p with
    | inl e => rw [hx] at h; cases h
    | inr y =>
      obtain ⟨s2, q2⟩ := y
      rw [hx] at h
      dsimp only at h
      obtain ⟨g1, g2, g3, g4, g5⟩ := sKey_q h0 hp hx
      split at h
      · rename_i h58
        cases h
        have hh := tH_r (p := q2) ht (by omega)
        have := hh.2.2.2 (by omega)
        exact ⟨by omega, by omega, g3⟩
      · cases h
theorem sName_er {ob : Bool} {T : Int → Int} {n p : Int} (h0 : 0 ≤ p) (hp : p ≤ n) {e : Int} (h : sName ob T n p = .inl e) : p ≤ e ∧ e ≤ n := by
  unfold sName at h
  cases ob with
  | false => cases h
  | true =>
    dsimp only [cond] at h
    cases hx : sKey T n p with
    | inl e => rw [hx] at h; cases h; exact sKey_er hp hx
    | inr y =>
      obtain ⟨s2, q2⟩ := y
      rw [hx] at h
      dsimp only at h
      obtain ⟨g1, g2, g3, g4, g5⟩ := sKey_q h0 hp hx
      split at h
      · cases h
      · cases h
        omega
theorem tx_nil : tx [] := ⟨by decide, fun c hc => absurd hc List.not_mem_nil⟩
theorem sPlain_ok {T : Int → Int} {n p : Int} (ht : tOK T n) (h0 : 0 ≤ p) (hp : p ≤ n) {i : tI} {q : Int} (h : sPlain T n p = .inr (i, q)) : p < q ∧ q ≤ n ∧ iok i ∧ i.2.2.2 = [] ∧ i.1 < 5 := by
  have hh := tH_r (p := p) ht h0
  have h01 : mr 0 := mr0
  unfold sPlain at h
  split at h
  · cases h
    have := hh.2.2.2 (by omega)
    exact ⟨by omega, by omega, ⟨by decide, by decide, h01, tx_nil, tx_nil⟩, rfl, by decide⟩
  split at h
  · cases h
    have := hh.2.2.2 (by omega)
    exact ⟨by omega, by omega, ⟨by decide, by decide, h01, tx_nil, tx_nil⟩, rfl, by decide⟩
  split at h
  · cases h
    have := hh.2.2.2 (by omega)
    exact ⟨by omega, by omega, ⟨by decide, by decide, h01, tx_nil, tx_nil⟩, rfl, by decide⟩
  split at h
  · cases hx : sNum T n p with
    | inl e => rw [hx] at h; cases h
    | inr y =>
      obtain ⟨x, q2⟩ := y
      rw [hx] at h
      cases h
      obtain ⟨g1, g2, g3, g4⟩ := sNum_ok ht h0 hp hx
      exact ⟨g1, g2, ⟨(by decide : (0 : Int) ≤ 3), (by decide : (3 : Int) ≤ 6), ⟨by show -2147483648 ≤ x; omega, by show x ≤ 2147483647; omega⟩, tx_nil, tx_nil⟩, rfl, (by decide : (3 : Int) < 5)⟩
  split at h
  · rename_i h39
    have hlt := hh.2.2.2 (by omega)
    cases hx : sText T n p with
    | inl e => rw [hx] at h; cases h
    | inr y =>
      obtain ⟨s, q2⟩ := y
      rw [hx] at h
      cases h
      obtain ⟨g1, g2, g3⟩ := sText_ok ht h0 hlt hx
      exact ⟨g1, g2, ⟨(by decide : (0 : Int) ≤ 4), (by decide : (4 : Int) ≤ 6), h01, g3, tx_nil⟩, rfl, (by decide : (4 : Int) < 5)⟩
  · cases h
theorem sPlain_er {T : Int → Int} {n p : Int} (ht : tOK T n) (h0 : 0 ≤ p) (hp : p ≤ n) {e : Int} (h : sPlain T n p = .inl e) : p ≤ e ∧ e ≤ n := by
  have hh := tH_r (p := p) ht h0
  unfold sPlain at h
  split at h
  · cases h
  split at h
  · cases h
  split at h
  · cases h
  split at h
  · cases hx : sNum T n p with
    | inl e2 => rw [hx] at h; cases h; exact sNum_er ht h0 hp hx
    | inr y => rw [hx] at h; cases h
  split at h
  · rename_i h39
    have hlt := hh.2.2.2 (by omega)
    cases hx : sText T n p with
    | inl e2 => rw [hx] at h; cases h; exact sText_er h0 hlt hx
    | inr y => rw [hx] at h; cases h
  · cases h
    omega
/-- what the reading says of its places and of what it makes -/
theorem sP_ok {T : Int → Int} {n : Int} (ht : tOK T n) : ∀ f : Nat, (∀ (a : Nat) (p : Int), 0 ≤ p → p ≤ n → (∀ i F q, sP T n f (.inl (a, p)) = .inr (i, F, q) → p < q ∧ q ≤ n ∧ iok i ∧ i.2.2.2 = [] ∧ fwf F ∧ (fct F : Int) + 1 ≤ q - p) ∧ (∀ e, sP T n f (.inl (a, p)) = .inl e → p ≤ e ∧ e ≤ n)) ∧
    (∀ (ob : Bool) (a : Nat) (F : FT) (p : Int), 0 ≤ p → p ≤ n → fwf F → (∀ i F' q, sP T n f (.inr (ob, a, F, p)) = .inr (i, F', q) → p < q ∧ q ≤ n ∧ fwf F' ∧ (fct F' : Int) ≤ fct F + (q - p - 1)) ∧ (∀ e, sP T n f (.inr (ob, a, F, p)) = .inl e → p ≤ e ∧ e ≤ n)) := by
  intro f
  induction f with
  | zero =>
    refine ⟨fun a p h0 hp => ⟨fun i F q h => (by cases h), fun e h => (by cases h; omega)⟩, fun ob a F p h0 hp hF => ⟨fun i F' q h => (by cases h), fun e h => (by cases h; omega)⟩⟩
  | succ f ih =>
    obtain ⟨ihV, ihI⟩ := ih
    refine ⟨fun a p h0 hp => ?_, fun ob a F p h0 hp hF => ?_⟩
    · have hh := tH_r (p := p) ht h0
      unfold sP
      by_cases hb : tH T n p = 91 ∨ tH T n p = 123
      · have hlt := hh.2.2.2 (by omega)
        rw [if_pos hb]
        have hi : iok (if tH T n p = 91 then 5 else 6, 0, [], []) := by
          refine ⟨?_, ?_, mr0, tx_nil, tx_nil⟩
          · show 0 ≤ (if tH T n p = 91 then 5 else 6 : Int)
            split <;> decide
          · show (if tH T n p = 91 then 5 else 6 : Int) ≤ 6
            split <;> decide
        by_cases ha : a = 4
        · rw [if_pos ha]
          exact ⟨fun i F q h => (by cases h), fun e h => (by cases h; omega)⟩
        · rw [if_neg ha]
          by_cases hc : tH T n (p + 1) = (if tH T n p = 91 then 93 else 125)
          · rw [if_pos hc]
            have h2 := tH_r (p := p + 1) ht (by omega)
            have hlt2 : p + 1 < n := h2.2.2.2 (by rw [hc]; split <;> omega)
            exact ⟨fun i F q h => (by cases h; exact ⟨by omega, by omega, hi, rfl, trivial, by show ((0 : Nat) : Int) + 1 ≤ _; omega⟩), fun e h => (by cases h)⟩
          · rw [if_neg hc]
            obtain ⟨k1, k2⟩ := ihI (decide (tH T n p = 123)) a .leaf (p + 1) (by omega) (by omega) trivial
            cases hx : sP T n f (.inr (decide (tH T n p = 123), a, .leaf, p + 1)) with
            | inl e2 => exact ⟨fun i F q h => (by cases h), fun e h => (by cases h; have := k2 e2 hx; omega)⟩
            | inr y =>
              obtain ⟨i2, F2, q2⟩ := y
              obtain ⟨g1, g2, g3, g4⟩ := k1 i2 F2 q2 hx
              have g4 : (fct F2 : Int) ≤ ((0 : Nat) : Int) + (q2 - (p + 1) - 1) := g4
              exact ⟨fun i F q h => (by cases h; exact ⟨by omega, g2, hi, rfl, g3, by omega⟩), fun e h => (by cases h)⟩
      · rw [if_neg hb]
        cases hx : sPlain T n p with
        | inl e2 => exact ⟨fun i F q h => (by cases h), fun e h => (by cases h; exact sPlain_er ht h0 hp hx)⟩
        | inr y =>
          obtain ⟨i2, q2⟩ := y
          obtain ⟨g1, g2, g3, g4, g5⟩ := sPlain_ok ht h0 hp hx
          exact ⟨fun i F q h => (by cases h; exact ⟨g1, g2, g3, g4, trivial, by show ((0 : Nat) : Int) + 1 ≤ _; omega⟩), fun e h => (by cases h)⟩
    · unfold sP
      cases hn : sName ob T n p with
      | inl e2 => exact ⟨fun i F q h => (by cases h), fun e h => (by cases h; exact sName_er h0 hp hn)⟩
      | inr y =>
        obtain ⟨s, p1⟩ := y
        obtain ⟨g1, g2, g3⟩ := sName_ok ht h0 hp hn
        obtain ⟨k1, k2⟩ := ihV (a + 1) p1 (by omega) g2
        dsimp only
        cases hx : sP T n f (.inl (a + 1, p1)) with
        | inl e2 => exact ⟨fun i F q h => (by cases h), fun e h => (by cases h; have := k2 e2 hx; omega)⟩
        | inr y =>
          obtain ⟨i, c, q⟩ := y
          obtain ⟨m1, m2, m3, m4, m5, m6⟩ := k1 i c q hx
          have hik : iok (wk i s) := ⟨m3.1, m3.2.1, m3.2.2.1, m3.2.2.2.1, g3⟩
          have hF2 : fwf (fput ob (wk i s) c F) := fwf_put hik m5 hF
          have hct := fct_put ob (wk i s) c F
          have h2 := tH_r (p := q) ht (by omega)
          dsimp only
          by_cases h44 : tH T n q = 44
          · rw [if_pos h44]
            have hlt := h2.2.2.2 (by omega)
            obtain ⟨w1, w2⟩ := ihI ob a (fput ob (wk i s) c F) (q + 1) (by omega) (by omega) hF2
            refine ⟨fun i' F' q' h => ?_, fun e h => ?_⟩
            · obtain ⟨v1, v2, v3, v4⟩ := w1 i' F' q' h
              exact ⟨by omega, v2, v3, by omega⟩
            · have := w2 e h
              omega
          · rw [if_neg h44]
            by_cases hcl : tH T n q = (if ob = true then 125 else 93)
            · rw [if_pos hcl]
              have hlt : q < n := h2.2.2.2 (by rw [hcl]; split <;> omega)
              exact ⟨fun i' F' q' h => (by cases h; exact ⟨by omega, by omega, hF2, by omega⟩), fun e h => (by cases h)⟩
            · rw [if_neg hcl]
              exact ⟨fun i' F' q' h => (by cases h), fun e h => (by cases h; omega)⟩
