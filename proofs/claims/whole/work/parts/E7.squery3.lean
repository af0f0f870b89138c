/-! ===== what a query's stages are like ===== -/
def sgO (st : sT) : Prop := (st.1 = -1 ∧ (∀ e ∈ st.2.2, stO e) ∧ st.2.2.length ≤ 12) ∨ (wdO st)
theorem sBr_k {T : Int → Int} {n p : Int} {k : Nat} {a : sE × Int} (h : sBr T n p k = .inr a) : ¬ k = 12 := fun hk => by
  unfold sBr at h
  rw [if_pos hk] at h
  cases h
theorem sNxt_k {T : Int → Int} {n p : Int} {k : Nat} {a : sE × Int} (h : sNxt T n p k = .inr a) : ¬ k = 12 := fun hk => by
  unfold sNxt at h
  by_cases h1 : tH T n p = 91
  · rw [if_pos h1] at h
    exact sBr_k h hk
  · rw [if_neg h1, if_pos hk] at h
    cases h
def fsO (k : Nat) (p q : Int) : sT ⊕ List sE → Prop
  | .inl st => wdO st ∧ p + 3 ≤ q
  | .inr acc => (∀ e ∈ acc, stO e) ∧ k + acc.length ≤ 12
theorem pL_ne {c : Int} (h : pL c = true) : 97 ≤ c ∧ c ≤ 122 := of_decide_eq_true h
theorem sFst_R {T : Int → Int} {n p : Int} {k : Nat} (ht : tOK T n) (h0 : 0 ≤ p) (hp : p ≤ n) (hk : k ≤ 12) : (∀ e, sFst T n p k = .inl e → p ≤ e ∧ e ≤ n) ∧ (∀ a q, sFst T n p k = .inr (a, q) → p < q ∧ q ≤ n ∧ fsO k p q a) := by
  unfold sFst
  by_cases h1 : pL (tH T n p) = true
  · have hl := (tH_r (p := p) ht h0).2.2.2 (by have := pL_ne h1; omega)
    rw [if_pos h1]
    have hk2 := sKey_R (T := T) (n := n) (p := p) h0 hp
    cases hs : sKey T n p with
    | inl e => exact ⟨fun e' h => by cases h; exact hk2.1 e hs, fun a q h => by cases h⟩
    | inr x =>
      obtain ⟨s, q⟩ := x
      obtain ⟨k1, k2, k3⟩ := hk2.2 s q hs
      dsimp only
      by_cases h2 : tH T n q = 40
      · have hl := tH_lt ht (by omega) h2 (by decide)
        rw [if_pos h2]
        obtain ⟨hw, hw2⟩ := sWrd_R (s := s) (p := p) (q := q) ht h0 k1 hl
        cases hs2 : sWrd T n s p q with
        | inl e => exact ⟨fun e' h => by cases h; exact hw.1 e hs2, fun a q h => by cases h⟩
        | inr x =>
          obtain ⟨st, q2⟩ := x
          obtain ⟨w1, w2, w3⟩ := hw.2 st q2 hs2
          have w4 := hw2 st q2 hs2
          refine ⟨fun e' h => (by cases h), fun a q' h => ?_⟩
          cases h
          exact ⟨w1, w2, w3, by omega⟩
      · rw [if_neg h2]
        by_cases h3 : k = 12
        · rw [if_pos h3]
          exact ⟨fun e' h => by cases h; exact ⟨Int.le_refl _, hp⟩, fun a q h => by cases h⟩
        · rw [if_neg h3]
          refine ⟨fun e' h => (by cases h), fun a q' h => ?_⟩
          cases h
          exact ⟨k1, k2, fun e he => by rw [List.mem_singleton.mp he]; exact stO_k k3, by show k + 1 ≤ 12; omega⟩
  · rw [if_neg h1]
    by_cases h2 : tH T n p = 91
    · have hl := tH_lt ht h0 h2 (by decide)
      rw [if_pos h2]
      have hb := sBr_R (k := k) ht h0 hl
      cases hs : sBr T n p k with
      | inl e => exact ⟨fun e' h => by cases h; exact hb.1 e hs, fun a q h => by cases h⟩
      | inr x =>
        obtain ⟨e, q⟩ := x
        obtain ⟨b1, b2, b3⟩ := hb.2 e q hs
        have b4 := sBr_k hs
        refine ⟨fun e' h => (by cases h), fun a q' h => ?_⟩
        cases h
        exact ⟨b1, b2, fun e he => by rw [List.mem_singleton.mp he]; exact b3, by show k + 1 ≤ 12; omega⟩
    · rw [if_neg h2]
      by_cases h3 : tH T n p = 64
      · have hl := tH_lt ht h0 h3 (by decide)
        rw [if_pos h3]
        refine ⟨fun e' h => (by cases h), fun a q' h => ?_⟩
        cases h
        exact ⟨by omega, hl, fun e he => absurd he List.not_mem_nil, hk⟩
      · rw [if_neg h3]
        exact ⟨fun e' h => by cases h; exact ⟨Int.le_refl _, hp⟩, fun a q h => by cases h⟩
theorem sStp_R {T : Int → Int} {n : Int} {k : Nat} (ht : tOK T n) : ∀ (f : Nat) (acc : List sE) (p : Int), 0 ≤ p → p ≤ n → (∀ e ∈ acc, stO e) → k + acc.length ≤ 12 → (∀ e, sStp T n k f acc p = .inl e → p ≤ e ∧ e ≤ n) ∧ (∀ l q, sStp T n k f acc p = .inr (l, q) → p ≤ q ∧ q ≤ n ∧ (∀ e ∈ l, stO e) ∧ k + l.length ≤ 12)
  | 0, acc, p, h0, hp, ha, hk => ⟨fun e h => (by cases h), fun a q h => by cases h; exact ⟨Int.le_refl _, hp, ha, hk⟩⟩
  | f + 1, acc, p, h0, hp, ha, hk => by
    unfold sStp
    by_cases h1 : tH T n p = 46 ∨ tH T n p = 91
    · have hl := (tH_r (p := p) ht h0).2.2.2 (by omega)
      rw [if_pos h1]
      have hb := sNxt_R (k := k + acc.length) ht h0 (p := p) (by omega)
      cases hs : sNxt T n p (k + acc.length) with
      | inl e => exact ⟨fun e' h => by cases h; exact hb.1 e hs, fun a q h => by cases h⟩
      | inr x =>
        obtain ⟨e, q⟩ := x
        obtain ⟨b1, b2, b3⟩ := hb.2 e q hs
        have b4 := sNxt_k hs
        have hlen : (acc ++ [e]).length = acc.length + 1 := by rw [List.length_append]; rfl
        have ih := sStp_R (k := k) ht f (acc ++ [e]) q (by omega) b2 (fun e' he => by
          rcases List.mem_append.mp he with he | he
          · exact ha e' he
          · rw [List.mem_singleton.mp he]; exact b3) (by omega)
        refine ⟨fun e' h => ?_, fun l q' h => ?_⟩
        · have := ih.1 e' h
          omega
        · have := ih.2 l q' h
          exact ⟨by omega, this.2⟩
    · rw [if_neg h1]
      exact ⟨fun e h => (by cases h), fun a q h => by cases h; exact ⟨Int.le_refl _, hp, ha, hk⟩⟩
theorem sStg_R {T : Int → Int} {n p : Int} {k : Nat} (ht : tOK T n) (h0 : 0 ≤ p) (hp : p ≤ n) (hk : k ≤ 12) : (∀ e, sStg T n p k = .inl e → p ≤ e ∧ e ≤ n) ∧ (∀ st q k2, sStg T n p k = .inr (st, q, k2) → p < q ∧ q ≤ n ∧ sgO st ∧ k ≤ k2 ∧ k2 ≤ 12 ∧ 2 * (stJ st + 1 - (k2 - k)) ≤ q - p + 1) := by
  unfold sStg
  have hf := sFst_R (p := p) (k := k) ht h0 hp hk
  cases hs : sFst T n p k with
  | inl e => exact ⟨fun e' h => by cases h; exact hf.1 e hs, fun a q k2 h => by cases h⟩
  | inr x =>
    obtain ⟨a, q⟩ := x
    obtain ⟨f1, f2, f3⟩ := hf.2 a q hs
    cases a with
    | inl st =>
      refine ⟨fun e' h => (by cases h), fun st' q' k2 h => ?_⟩
      cases h
      have hj : stJ st = 1 := if_neg (by have := f3.1.1.1; omega)
      refine ⟨f1, f2, Or.inr f3.1, Nat.le_refl _, hk, ?_⟩
      have := f3.2
      rw [hj]
      omega
    | inr acc =>
      dsimp only
      have hg := sStp_R (k := k) ht 14 acc q (by omega) f2 f3.1 f3.2
      cases hs2 : sStp T n k 14 acc q with
      | inl e =>
        have := hg.1 e hs2
        exact ⟨fun e' h => by cases h; omega, fun a q k2 h => by cases h⟩
      | inr x =>
        obtain ⟨l, q2⟩ := x
        obtain ⟨g1, g2, g3, g4⟩ := hg.2 l q2 hs2
        refine ⟨fun e' h => (by cases h), fun st' q' k2 h => ?_⟩
        cases h
        have hj : stJ (-1, [], l) = l.length := if_pos (by show (-1 : Int) < 0; decide)
        refine ⟨by omega, g2, Or.inl ⟨rfl, g3, by show l.length ≤ 12; omega⟩, by omega, g4, ?_⟩
        rw [hj]
        omega
theorem quL_app (st : sT) : ∀ l : List sT, quL (l ++ [st]) = quL l + stJ st + 1
  | [] => by
    show stJ st + 1 + 0 = 0 + stJ st + 1
    omega
  | a :: l => by
    show stJ a + 1 + quL (l ++ [st]) = stJ a + 1 + quL l + stJ st + 1
    rw [quL_app st l]
    omega
theorem sQs_R {T : Int → Int} {n : Int} (ht : tOK T n) : ∀ (f : Nat) (acc : List sT) (k : Nat) (p : Int), 0 ≤ p → p ≤ n → k ≤ 12 → (∀ st ∈ acc, sgO st) → 2 * (quL acc - k) ≤ p → n < p + f → (∀ e, sQs T n f acc k p = .inl e → p ≤ e ∧ e ≤ n) ∧ (∀ l, sQs T n f acc k p = .inr l → (∀ st ∈ l, sgO st) ∧ quL l ≤ 92)
  | 0, acc, k, p, h0, hp, hk, ha, hq, hf => absurd hf (by omega)
  | f + 1, acc, k, p, h0, hp, hk, ha, hq, hf => by
    unfold sQs
    have hg := sStg_R (p := p) (k := k) ht h0 hp hk
    cases hs : sStg T n p k with
    | inl e => exact ⟨fun e' h => by cases h; exact hg.1 e hs, fun a h => by cases h⟩
    | inr x =>
      obtain ⟨st, q, k2⟩ := x
      obtain ⟨g1, g2, g3, g4, g5, g6⟩ := hg.2 st q k2 hs
      dsimp only
      have hac : ∀ st' ∈ acc ++ [st], sgO st' := fun st' h => by
        rcases List.mem_append.mp h with h | h
        · exact ha st' h
        · rw [List.mem_singleton.mp h]; exact g3
      have hqa := quL_app st acc
      by_cases h1 : tH T n q = 124
      · have hl := tH_lt ht (by omega) h1 (by decide)
        rw [if_pos h1]
        have ih := sQs_R ht f (acc ++ [st]) k2 (q + 1) (by omega) hl g5 hac (by rw [hqa]; omega) (by omega)
        refine ⟨fun e' h => ?_, ih.2⟩
        have := ih.1 e' h
        omega
      · rw [if_neg h1]
        by_cases h2 : q < n
        · rw [if_pos h2]
          exact ⟨fun e' h => by cases h; omega, fun a h => by cases h⟩
        · rw [if_neg h2]
          refine ⟨fun e' h => (by cases h), fun l h => ?_⟩
          cases h
          refine ⟨hac, ?_⟩
          have := ht.2.1
          rw [hqa]
          omega
