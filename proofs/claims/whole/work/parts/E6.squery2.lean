/-! ===== what a query's steps are like ===== -/
def sdO (s : sD) : Prop := (1 ≤ s.1 ∧ s.1 ≤ 3) ∧ (s.1 = 1 → ksO s.2.2.2) ∧ (s.1 = 2 → -1000000 < s.2.1 ∧ s.2.1 < 1000000) ∧ (s.1 = 3 → tx s.2.2.1)
def nuO (p : Int × Int × Int × Int) : Prop := (0 ≤ p.1 ∧ p.1 ≤ 7) ∧ (-1000000 < p.2.1 ∧ p.2.1 < 1000000) ∧ (-1000000 < p.2.2.1 ∧ p.2.2.1 < 1000000) ∧ (-1000000 < p.2.2.2 ∧ p.2.2.2 < 1000000)
def stO (e : sE) : Prop := (0 ≤ e.1 ∧ e.1 ≤ 6) ∧ (e.1 = 0 → tx e.2.1) ∧ (e.1 = 1 → nuO e.2.2.1) ∧ (e.1 = 4 → sdO e.2.2.2.2.1 ∧ ((e.2.2.2.2.2.1 = 0 ∧ e.2.2.2.1 = 0) ∨ (sdO e.2.2.2.2.2 ∧ 1 ≤ e.2.2.2.1 ∧ e.2.2.2.1 ≤ 6))) ∧ (e.1 = 5 → nuO e.2.2.1 ∧ ¬ slC e.2.2.1 = 0)
theorem stO_ok {e : sE} (h : stO e) : eok1 e := ⟨h.1.1, h.1.2, fun z => (h.2.2.2.2 z).2⟩
theorem sSide_R {T : Int → Int} {n p : Int} (ht : tOK T n) (h0 : 0 ≤ p) (hp : p ≤ n) : sR n p sdO (sSide T n p) := by
  unfold sSide
  by_cases h1 : pN (tH T n p) = true
  · rw [if_pos h1]
    have hk := sNum_R ht h0 hp
    cases hs : sNum T n p with
    | inl e => exact sR_l (hk.1 e hs)
    | inr x =>
      obtain ⟨x, q⟩ := x
      have := hk.2 x q hs
      exact sR_r ⟨this.1, this.2.1⟩ ⟨⟨by show (1 : Int) ≤ 2; decide, by show (2 : Int) ≤ 3; decide⟩, fun z => absurd z (by show ¬ (2 : Int) = 1; decide), fun _ => this.2.2, fun z => absurd z (by show ¬ (2 : Int) = 3; decide)⟩
  · rw [if_neg h1]
    by_cases h2 : tH T n p = 39
    · rw [if_pos h2]
      have hl := tH_lt ht h0 h2 (by decide)
      have hk := sText_R (T := T) (n := n) (p := p) ht h0 (by omega)
      cases hs : sText T n p with
      | inl e => exact sR_l (hk.1 e hs)
      | inr x =>
        obtain ⟨x, q⟩ := x
        have := hk.2 x q hs
        exact sR_r ⟨this.1, this.2.1⟩ ⟨⟨by show (1 : Int) ≤ 3; decide, by show (3 : Int) ≤ 3; decide⟩, fun z => absurd z (by show ¬ (3 : Int) = 1; decide), fun z => absurd z (by show ¬ (3 : Int) = 2; decide), fun _ => this.2.2⟩
    · rw [if_neg h2]
      have hfin : ∀ ks q, p < q → q ≤ n → ksO ks → sR n p sdO (.inr (((1, 0, [], ks) : sD), q)) := fun ks q h1 h2 h3 => sR_r ⟨h1, h2⟩ ⟨⟨by show (1 : Int) ≤ 1; decide, by show (1 : Int) ≤ 3; decide⟩, fun _ => h3, fun z => absurd z (by show ¬ (1 : Int) = 2; decide), fun z => absurd z (by show ¬ (1 : Int) = 3; decide)⟩
      by_cases h3 : tH T n p = 64
      · rw [if_pos h3]
        have hl := tH_lt ht h0 h3 (by decide)
        have hk := sPth_R ht 4 [] (p + 1) rfl (fun s h => absurd h List.not_mem_nil) (by omega) hl
        cases hs : sPth T n 4 [] (p + 1) with
        | inl e =>
          have := hk.1 e hs
          exact sR_l ⟨by omega, this.2⟩
        | inr x =>
          obtain ⟨ks, q⟩ := x
          have := hk.2 ks q hs
          refine hfin ks q (by omega) this.2.1 ?_
          rcases this.2.2 with h | h
          · exact absurd h (by decide)
          · exact h
      · rw [if_neg h3]
        have hk := sKey_R (T := T) (n := n) (p := p) h0 hp
        cases hs : sKey T n p with
        | inl e => exact sR_l (hk.1 e hs)
        | inr x =>
          obtain ⟨s, q⟩ := x
          obtain ⟨k1, k2, k3⟩ := hk.2 s q hs
          have hk := sPth_R ht 3 [s] q rfl (fun t h => by rw [List.mem_singleton.mp h]; exact k3) (by omega) k2
          dsimp only
          cases hs2 : sPth T n 3 [s] q with
          | inl e =>
            have := hk.1 e hs2
            exact sR_l ⟨by omega, this.2⟩
          | inr x =>
            obtain ⟨ks, q2⟩ := x
            have := hk.2 ks q2 hs2
            refine hfin ks q2 (by omega) this.2.1 ?_
            rcases this.2.2 with h | h
            · exact absurd h (by decide)
            · exact h
theorem sgn_r (c : Int) (b : Bool) : 1 ≤ sgn c b ∧ sgn c b ≤ 6 := by
  unfold sgn
  cases b
  · repeat' split
    all_goals exact ⟨by decide, by decide⟩
  · repeat' split
    all_goals exact ⟨by decide, by decide⟩
theorem stO_4 {g : Int} {l r : sD} (hl : sdO l) (hr : (r.1 = 0 ∧ g = 0) ∨ (sdO r ∧ 1 ≤ g ∧ g ≤ 6)) : stO (4, [], nnu, g, l, r) := ⟨⟨by show (0 : Int) ≤ 4; decide, by show (4 : Int) ≤ 6; decide⟩, fun z => absurd z (by show ¬ (4 : Int) = 0; decide), fun z => absurd z (by show ¬ (4 : Int) = 1; decide), fun _ => ⟨hl, hr⟩, fun z => absurd z (by show ¬ (4 : Int) = 5; decide)⟩
theorem sCnd2_R {T : Int → Int} {n q g : Int} {l : sD} (ht : tOK T n) (h0 : 0 ≤ q) (hp : q ≤ n) (hl : sdO l) (hg : 1 ≤ g ∧ g ≤ 6) : sR n q stO (sCnd2 T n l g q) := by
  unfold sCnd2
  have hk := sSide_R ht h0 hp
  cases hs : sSide T n q with
  | inl e => exact sR_l (hk.1 e hs)
  | inr x =>
    obtain ⟨r, q2⟩ := x
    obtain ⟨k1, k2, k3⟩ := hk.2 r q2 hs
    dsimp only
    by_cases h : tH T n q2 = 93
    · have := tH_lt ht (by omega) h (by decide)
      rw [if_pos h]
      exact sR_r ⟨by omega, by omega⟩ (stO_4 hl (Or.inr ⟨k3, hg⟩))
    · rw [if_neg h]
      exact sR_l ⟨by omega, k2⟩
theorem sCnd_R {T : Int → Int} {n p : Int} (ht : tOK T n) (h0 : 0 ≤ p) (hp : p ≤ n) : sR n p stO (sCnd T n p) := by
  unfold sCnd
  have hk := sSide_R ht h0 hp
  cases hs : sSide T n p with
  | inl e => exact sR_l (hk.1 e hs)
  | inr x =>
    obtain ⟨l, q⟩ := x
    obtain ⟨k1, k2, k3⟩ := hk.2 l q hs
    dsimp only
    have hh := tH_r (p := q) ht (by omega)
    by_cases h : tH T n q = 61 ∨ tH T n q = 33 ∨ tH T n q = 60 ∨ tH T n q = 62
    · have hq := hh.2.2.2 (by omega)
      rw [if_pos h]
      by_cases h1 : tH T n (q + 1) = 61
      · have := tH_lt ht (by omega) h1 (by decide)
        rw [if_pos h1]
        exact sR_mono (sCnd2_R ht (by omega) (by omega) k3 (sgn_r _ _)) (by omega) (fun a h => h)
      · rw [if_neg h1]
        by_cases h2 : tH T n q = 61 ∨ tH T n q = 33
        · rw [if_pos h2]
          exact sR_l ⟨by omega, by omega⟩
        · rw [if_neg h2]
          exact sR_mono (sCnd2_R ht (by omega) (by omega) k3 (sgn_r _ _)) (by omega) (fun a h => h)
    · rw [if_neg h]
      by_cases h3 : tH T n q = 93
      · have := tH_lt ht (by omega) h3 (by decide)
        rw [if_pos h3]
        exact sR_r ⟨by omega, by omega⟩ (stO_4 k3 (Or.inl ⟨rfl, rfl⟩))
      · rw [if_neg h3]
        exact sR_l ⟨by omega, k2⟩
def opO (z : Bool) (a : Option Int) : Prop := ∀ x, a = some x → (-1000000 < x ∧ x < 1000000) ∧ (z = true → ¬ x = 0)
theorem sOpt_R {T : Int → Int} {n p : Int} {z : Bool} (ht : tOK T n) (h0 : 0 ≤ p) (hp : p ≤ n) : (∀ e, sOpt T n p z = .inl e → p ≤ e ∧ e ≤ n) ∧ (∀ a q, sOpt T n p z = .inr (a, q) → p ≤ q ∧ q ≤ n ∧ opO z a) := by
  unfold sOpt
  by_cases h1 : pN (tH T n p) = true
  · rw [if_pos h1]
    have hk := sNum_R ht h0 hp
    cases hs : sNum T n p with
    | inl e => exact ⟨fun e' h => by cases h; exact hk.1 e hs, fun a q h => by cases h⟩
    | inr x =>
      obtain ⟨x, q⟩ := x
      obtain ⟨k1, k2, k3⟩ := hk.2 x q hs
      dsimp only
      by_cases hz : z = true ∧ x = 0
      · rw [if_pos hz]
        exact ⟨fun e' h => by cases h; exact ⟨Int.le_refl _, hp⟩, fun a q h => by cases h⟩
      · rw [if_neg hz]
        refine ⟨fun e' h => (by cases h), fun a q' h => ?_⟩
        cases h
        refine ⟨by omega, k2, fun y hy => ?_⟩
        cases hy
        exact ⟨k3, fun h1 h2 => hz ⟨h1, h2⟩⟩
  · rw [if_neg h1]
    refine ⟨fun e' h => (by cases h), fun a q' h => ?_⟩
    cases h
    exact ⟨Int.le_refl _, hp, fun y hy => by cases hy⟩
theorem nm0_r {z : Bool} {a : Option Int} (h : opO z a) : -1000000 < nm0 a ∧ nm0 a < 1000000 := by
  cases a with
  | none => exact ⟨by show (-1000000 : Int) < 0; decide, by show (0 : Int) < 1000000; decide⟩
  | some x => exact (h x rfl).1
theorem bit1_r (a : Option Int) {k : Int} (hk : 0 ≤ k) : bit1 a k = 0 ∨ bit1 a k = k := by
  cases a with
  | none => exact Or.inl rfl
  | some x => exact Or.inr rfl
theorem nmb_O {a b c : Option Int} (ha : opO false a) (hb : opO false b) (hc : opO true c) : nuO (nmb a b c) ∧ ¬ slC (nmb a b c) = 0 := by
  have h1 := bit1_r a (k := 1) (by decide)
  have h2 := bit1_r b (k := 2) (by decide)
  have h3 := bit1_r c (k := 4) (by decide)
  refine ⟨⟨⟨?_, ?_⟩, nm0_r ha, nm0_r hb, nm0_r hc⟩, ?_⟩
  · show 0 ≤ bit1 a 1 + bit1 b 2 + bit1 c 4
    omega
  · show bit1 a 1 + bit1 b 2 + bit1 c 4 ≤ 7
    omega
  · show ¬ (if 4 ≤ bit1 a 1 + bit1 b 2 + bit1 c 4 then nm0 c else 1) = 0
    cases c with
    | none =>
      have : bit1 none 4 = 0 := rfl
      rw [if_neg (by omega)]
      decide
    | some x =>
      have : bit1 (some x) 4 = 4 := rfl
      rw [if_pos (by omega)]
      exact (hc x rfl).2 rfl
theorem opO_n (z : Bool) : opO z none := fun x h => by cases h
theorem sNe_R {T : Int → Int} {n q p w : Int} {a b c : Option Int} (ht : tOK T n) (h0 : 0 ≤ q) (hq : q ≤ n) (hp : p ≤ q) (hw : w = 1 ∨ w = 5) (ha : opO false a) (hb : opO false b) (hc : opO true c) : sR n p stO (sNe T n w a b c q) := by
  unfold sNe
  have hn := nmb_O ha hb hc
  by_cases h : tH T n q = 93
  · have := tH_lt ht h0 h (by decide)
    rw [if_pos h]
    refine sR_r ⟨by omega, by omega⟩ ⟨⟨?_, ?_⟩, fun z => ?_, fun _ => hn.1, fun z => ?_, fun _ => hn⟩
    · show 0 ≤ w
      omega
    · show w ≤ 6
      omega
    · have z : w = 0 := z
      omega
    · have z : w = 4 := z
      omega
  · rw [if_neg h]
    exact sR_l ⟨hp, hq⟩
theorem sNmb_R {T : Int → Int} {n p : Int} (ht : tOK T n) (h0 : 0 ≤ p) (hp : p ≤ n) : sR n p stO (sNmb T n p) := by
  unfold sNmb
  have hk := sOpt_R (z := false) ht h0 hp
  cases hs : sOpt T n p false with
  | inl e => exact sR_l (hk.1 e hs)
  | inr x =>
    obtain ⟨a, q⟩ := x
    obtain ⟨a1, a2, a3⟩ := hk.2 a q hs
    dsimp only
    by_cases h1 : tH T n q = 58
    · have hl := tH_lt ht (by omega) h1 (by decide)
      rw [if_pos h1]
      have hk := sOpt_R (T := T) (n := n) (p := q + 1) (z := false) ht (by omega) hl
      cases hs2 : sOpt T n (q + 1) false with
      | inl e =>
        have := hk.1 e hs2
        exact sR_l ⟨by omega, this.2⟩
      | inr x =>
        obtain ⟨b, q2⟩ := x
        obtain ⟨b1, b2, b3⟩ := hk.2 b q2 hs2
        dsimp only
        by_cases h2 : tH T n q2 = 58
        · have hl := tH_lt ht (by omega) h2 (by decide)
          rw [if_pos h2]
          have hk := sOpt_R (T := T) (n := n) (p := q2 + 1) (z := true) ht (by omega) hl
          cases hs3 : sOpt T n (q2 + 1) true with
          | inl e =>
            have := hk.1 e hs3
            exact sR_l ⟨by omega, this.2⟩
          | inr x =>
            obtain ⟨c, q3⟩ := x
            obtain ⟨c1, c2, c3⟩ := hk.2 c q3 hs3
            exact sNe_R ht (by omega) c2 (by omega) (Or.inr rfl) a3 b3 c3
        · rw [if_neg h2]
          exact sNe_R ht (by omega) b2 (by omega) (Or.inr rfl) a3 b3 (opO_n true)
    · rw [if_neg h1]
      by_cases h3 : a = none
      · rw [if_pos h3]
        exact sR_l ⟨a1, a2⟩
      · rw [if_neg h3]
        exact sNe_R ht (by omega) a2 a1 (Or.inl rfl) a3 (opO_n false) (opO_n true)
theorem stO_p {w : Int} (hw : w = 2 ∨ w = 3 ∨ w = 6) : stO (w, [], nnu, 0, nsd, nsd) := by
  refine ⟨⟨?_, ?_⟩, fun z => ?_, fun z => ?_, fun z => ?_, fun z => ?_⟩
  · show 0 ≤ w
    omega
  · show w ≤ 6
    omega
  · have z : w = 0 := z
    omega
  · have z : w = 1 := z
    omega
  · have z : w = 4 := z
    omega
  · have z : w = 5 := z
    omega
theorem stO_k {s : List Int} (hs : tx s) : stO (0, s, nnu, 0, nsd, nsd) := ⟨⟨Int.le_refl 0, by show (0 : Int) ≤ 6; decide⟩, fun _ => hs, fun z => absurd z (by show ¬ (0 : Int) = 1; decide), fun z => absurd z (by show ¬ (0 : Int) = 4; decide), fun z => absurd z (by show ¬ (0 : Int) = 5; decide)⟩
theorem sBr_R {T : Int → Int} {n p : Int} {k : Nat} (ht : tOK T n) (h0 : 0 ≤ p) (hp : p + 1 ≤ n) : sR n p stO (sBr T n p k) := by
  unfold sBr
  by_cases hk : k = 12
  · rw [if_pos hk]
    exact sR_l ⟨Int.le_refl _, by omega⟩
  · rw [if_neg hk]
    by_cases h1 : tH T n (p + 1) = 93
    · have := tH_lt ht (by omega) h1 (by decide)
      rw [if_pos h1]
      exact sR_r ⟨by omega, by omega⟩ (stO_p (Or.inr (Or.inr rfl)))
    · rw [if_neg h1]
      by_cases h2 : tH T n (p + 1) = 42
      · have := tH_lt ht (by omega) h2 (by decide)
        rw [if_pos h2]
        by_cases h3 : tH T n (p + 1 + 1) = 93
        · have := tH_lt ht (by omega) h3 (by decide)
          rw [if_pos h3]
          exact sR_r ⟨by omega, by omega⟩ (stO_p (Or.inl rfl))
        · rw [if_neg h3]
          exact sR_l ⟨by omega, by omega⟩
      · rw [if_neg h2]
        by_cases h3 : tH T n (p + 1) = 63
        · have := tH_lt ht (by omega) h3 (by decide)
          rw [if_pos h3]
          exact sR_mono (sCnd_R ht (by omega) (by omega)) (by omega) (fun a h => h)
        · rw [if_neg h3]
          exact sR_mono (sNmb_R ht (by omega) (by omega)) (by omega) (fun a h => h)
theorem sNxt_R {T : Int → Int} {n p : Int} {k : Nat} (ht : tOK T n) (h0 : 0 ≤ p) (hp : p + 1 ≤ n) : sR n p stO (sNxt T n p k) := by
  unfold sNxt
  by_cases h1 : tH T n p = 91
  · rw [if_pos h1]
    exact sBr_R ht h0 hp
  · rw [if_neg h1]
    by_cases hk : k = 12
    · rw [if_pos hk]
      exact sR_l ⟨Int.le_refl _, by omega⟩
    · rw [if_neg hk]
      by_cases h2 : tH T n (p + 1) = 42
      · have := tH_lt ht (by omega) h2 (by decide)
        rw [if_pos h2]
        exact sR_r ⟨by omega, by omega⟩ (stO_p (Or.inr (Or.inl rfl)))
      · rw [if_neg h2]
        have hk := sKey_R (T := T) (n := n) (p := p + 1) (by omega) hp
        cases hs : sKey T n (p + 1) with
        | inl e =>
          have := hk.1 e hs
          exact sR_l ⟨by omega, this.2⟩
        | inr x =>
          obtain ⟨s, q⟩ := x
          obtain ⟨k1, k2, k3⟩ := hk.2 s q hs
          exact sR_r ⟨by omega, k2⟩ (stO_k k3)
def wdO (st : sT) : Prop := (0 ≤ st.1 ∧ st.1 ≤ 8) ∧ tx st.2.1
theorem wordS_r (s : List Int) : -1 ≤ wordS s ∧ wordS s ≤ 8 := by
  unfold wordS wg1 wg2
  repeat' split
  all_goals exact ⟨by decide, by decide⟩
theorem sWrd_R {T : Int → Int} {n p q : Int} {s : List Int} (ht : tOK T n) (h0 : 0 ≤ p) (hpq : p < q) (hq : q + 1 ≤ n) : sR n p wdO (sWrd T n s p q) ∧ (∀ st q2, sWrd T n s p q = .inr (st, q2) → q + 1 < q2) := by
  unfold sWrd
  have hw := wordS_r s
  by_cases h1 : wordS s = -1
  · rw [if_pos h1]
    exact ⟨sR_l ⟨Int.le_refl _, by omega⟩, fun st q2 h => by cases h⟩
  · rw [if_neg h1]
    by_cases h2 : pL (tH T n (q + 1)) = true
    · rw [if_pos h2]
      by_cases h3 : ¬ wordS s = 3
      · rw [if_pos h3]
        exact ⟨sR_l ⟨by omega, by omega⟩, fun st q2 h => by cases h⟩
      · rw [if_neg h3]
        have hk := sKey_R (T := T) (n := n) (p := q + 1) (by omega) hq
        cases hs : sKey T n (q + 1) with
        | inl e =>
          have := hk.1 e hs
          exact ⟨sR_l ⟨by omega, this.2⟩, fun st q2 h => by cases h⟩
        | inr x =>
          obtain ⟨r, q2⟩ := x
          obtain ⟨k1, k2, k3⟩ := hk.2 r q2 hs
          dsimp only
          by_cases h4 : tH T n q2 = 41
          · have := tH_lt ht (by omega) h4 (by decide)
            rw [if_pos h4]
            exact ⟨sR_r ⟨by omega, by omega⟩ ⟨⟨by show 0 ≤ wordS s; omega, hw.2⟩, k3⟩, fun st q2 h => by cases h; omega⟩
          · rw [if_neg h4]
            exact ⟨sR_l ⟨by omega, k2⟩, fun st q2 h => by cases h⟩
    · rw [if_neg h2]
      by_cases h4 : tH T n (q + 1) = 41
      · have := tH_lt ht (by omega) h4 (by decide)
        rw [if_pos h4]
        exact ⟨sR_r ⟨by omega, by omega⟩ ⟨⟨by show 0 ≤ wordS s; omega, hw.2⟩, tx_nil⟩, fun st q2 h => by cases h; omega⟩
      · rw [if_neg h4]
        exact ⟨sR_l ⟨by omega, by omega⟩, fun st q2 h => by cases h⟩
