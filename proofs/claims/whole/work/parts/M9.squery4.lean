/-! ===== a query as it is read: keys of words, the number of steps ===== -/
def stS (st : sT) : Nat := if st.1 < 0 then st.2.2.length else 0
def qnS : List sT → Nat
  | [] => 0
  | st :: l => stS st + qnS l
theorem qnS_app (st : sT) : ∀ l : List sT, qnS (l ++ [st]) = qnS l + stS st
  | [] => by
    show stS st + 0 = 0 + stS st
    omega
  | a :: l => by
    show stS a + qnS (l ++ [st]) = stS a + qnS l + stS st
    rw [qnS_app st l]
    omega
def kP (st : sT) : Prop := st.1 = -1 ∨ (¬ st.1 = 3 → st.2.1 = [])
theorem sWrd_k {T : Int → Int} {n p q : Int} {s : List Int} {st : sT} {q2 : Int} (h : sWrd T n s p q = .inr (st, q2)) : 0 ≤ st.1 ∧ (¬ st.1 = 3 → st.2.1 = []) := by
  unfold sWrd at h
  have hw := wordS_r s
  by_cases h1 : wordS s = -1
  · rw [if_pos h1] at h
    cases h
  · rw [if_neg h1] at h
    by_cases h2 : pL (tH T n (q + 1)) = true
    · rw [if_pos h2] at h
      by_cases h3 : ¬ wordS s = 3
      · rw [if_pos h3] at h
        cases h
      · rw [if_neg h3] at h
        cases hs : sKey T n (q + 1) with
        | inl e =>
          rw [hs] at h
          cases h
        | inr x =>
          obtain ⟨r, q3⟩ := x
          rw [hs] at h
          dsimp only at h
          by_cases h4 : tH T n q3 = 41
          · rw [if_pos h4] at h
            cases h
            exact ⟨by show 0 ≤ wordS s; omega, fun z => absurd z h3⟩
          · rw [if_neg h4] at h
            cases h
    · rw [if_neg h2] at h
      by_cases h4 : tH T n (q + 1) = 41
      · rw [if_pos h4] at h
        cases h
        exact ⟨by show 0 ≤ wordS s; omega, fun _ => rfl⟩
      · rw [if_neg h4] at h
        cases h
theorem sFst_k {T : Int → Int} {n p : Int} {k : Nat} {st : sT} {q2 : Int} (h : sFst T n p k = .inr (.inl st, q2)) : 0 ≤ st.1 ∧ (¬ st.1 = 3 → st.2.1 = []) := by
  unfold sFst at h
  by_cases h1 : pL (tH T n p) = true
  · rw [if_pos h1] at h
    cases hs : sKey T n p with
    | inl e =>
      rw [hs] at h
      cases h
    | inr x =>
      obtain ⟨s, q⟩ := x
      rw [hs] at h
      dsimp only at h
      by_cases h2 : tH T n q = 40
      · rw [if_pos h2] at h
        cases hw : sWrd T n s p q with
        | inl e =>
          rw [hw] at h
          cases h
        | inr x =>
          obtain ⟨st', q'⟩ := x
          rw [hw] at h
          cases h
          exact sWrd_k hw
      · rw [if_neg h2] at h
        by_cases h3 : k = 12
        · rw [if_pos h3] at h
          cases h
        · rw [if_neg h3] at h
          cases h
  · rw [if_neg h1] at h
    by_cases h2 : tH T n p = 91
    · rw [if_pos h2] at h
      cases hb : sBr T n p k with
      | inl e =>
        rw [hb] at h
        cases h
      | inr x =>
        rw [hb] at h
        cases h
    · rw [if_neg h2] at h
      by_cases h3 : tH T n p = 64
      · rw [if_pos h3] at h
        cases h
      · rw [if_neg h3] at h
        cases h
theorem sStg_k {T : Int → Int} {n p : Int} {k : Nat} {st : sT} {q : Int} {k2 : Nat} (h : sStg T n p k = .inr (st, q, k2)) : kP st ∧ k2 = k + stS st := by
  unfold sStg at h
  cases hs : sFst T n p k with
  | inl e =>
    rw [hs] at h
    cases h
  | inr x =>
    obtain ⟨a, q1⟩ := x
    rw [hs] at h
    cases a with
    | inl st' =>
      dsimp only at h
      cases h
      have hk := sFst_k hs
      exact ⟨Or.inr hk.2, by unfold stS; rw [if_neg (by omega)]; rfl⟩
    | inr acc =>
      dsimp only at h
      cases hs2 : sStp T n k 14 acc q1 with
      | inl e =>
        rw [hs2] at h
        cases h
      | inr x =>
        obtain ⟨l, q2⟩ := x
        rw [hs2] at h
        cases h
        exact ⟨Or.inl rfl, rfl⟩
theorem sQs_k {T : Int → Int} {n : Int} (ht : tOK T n) : ∀ (f : Nat) (acc : List sT) (k : Nat) (p : Int) (l : List sT), 0 ≤ p → p ≤ n → k ≤ 12 → (∀ st ∈ acc, kP st) → qnS acc = k → sQs T n f acc k p = .inr l → (∀ st ∈ l, kP st) ∧ qnS l ≤ 12
  | 0, acc, k, p, l, h0, hp, hk, ha, hq, h => by
    cases h
  | f + 1, acc, k, p, l, h0, hp, hk, ha, hq, h => by
    unfold sQs at h
    cases hs : sStg T n p k with
    | inl e =>
      rw [hs] at h
      cases h
    | inr x =>
      obtain ⟨st, q, k2⟩ := x
      rw [hs] at h
      dsimp only at h
      obtain ⟨g1, g2, g3, g4, g5, g6⟩ := (sStg_R (p := p) (k := k) ht h0 hp hk).2 st q k2 hs
      obtain ⟨j1, j2⟩ := sStg_k hs
      have hac : ∀ st' ∈ acc ++ [st], kP st' := fun st' h => by
        rcases List.mem_append.mp h with h | h
        · exact ha st' h
        · rw [List.mem_singleton.mp h]
          exact j1
      have hqa : qnS (acc ++ [st]) = k2 := by rw [qnS_app, hq, j2]
      by_cases h1 : tH T n q = 124
      · have hl := tH_lt ht (by omega) h1 (by decide)
        rw [if_pos h1] at h
        exact sQs_k ht f (acc ++ [st]) k2 (q + 1) l (by omega) hl g5 hac hqa h
      · rw [if_neg h1] at h
        by_cases h2 : q < n
        · rw [if_pos h2] at h
          cases h
        · rw [if_neg h2] at h
          cases h
          exact ⟨hac, by omega⟩
theorem sQry_P {T : Int → Int} {n : Int} (ht : tOK T n) {l : List sT} (h : sQry T n = .inr l) : (∀ st ∈ l, sgP st) ∧ qnS l ≤ 12 := by
  have hn := ht.2.1
  have hn0 : 0 ≤ n := ht.1
  have a := (sQs_R ht 161 [] 0 0 (Int.le_refl 0) hn0 (by decide) (fun st h => absurd h List.not_mem_nil) (by show 2 * ((0 : Int) - ((0 : Nat) : Int)) ≤ 0; decide) (by omega)).2 l h
  have b := sQs_k ht 161 [] 0 0 l (Int.le_refl 0) hn0 (by decide) (fun st h => absurd h List.not_mem_nil) rfl h
  refine ⟨fun st hm => ?_, b.2⟩
  rcases a.1 st hm with z | z
  · exact Or.inl z
  · refine Or.inr ⟨z.1, z.2, ?_⟩
    rcases b.1 st hm with y | y
    · have := z.1.1
      omega
    · exact y
