/-! ===== how a query is read ===== -/
abbrev nsd : sD := (0, 0, [], [])
abbrev nnu : Int × Int × Int × Int := (0, 0, 0, 0)
def sPth (T : Int → Int) (n : Int) : Nat → List (List Int) → Int → Int ⊕ (List (List Int) × Int)
  | 0, ks, p => .inr (ks, p)
  | f + 1, ks, p => if tH T n p = 46 then (if ks.length = 3 then .inl (p + 1) else (match sKey T n (p + 1) with
      | .inl e => .inl e
      | .inr (s, q) => sPth T n f (ks ++ [s]) q)) else .inr (ks, p)
def sSide (T : Int → Int) (n p : Int) : Int ⊕ (sD × Int) :=
  if pN (tH T n p) = true then (match sNum T n p with
    | .inl e => .inl e
    | .inr (x, q) => .inr ((2, x, [], []), q))
  else if tH T n p = 39 then (match sText T n p with
    | .inl e => .inl e
    | .inr (s, q) => .inr ((3, 0, s, []), q))
  else if tH T n p = 64 then (match sPth T n 4 [] (p + 1) with
    | .inl e => .inl e
    | .inr (ks, q) => .inr ((1, 0, [], ks), q))
  else (match sKey T n p with
    | .inl e => .inl e
    | .inr (s, q) => (match sPth T n 3 [s] q with
      | .inl e => .inl e
      | .inr (ks, q) => .inr ((1, 0, [], ks), q)))
def sgn (c : Int) (eq : Bool) : Int := if c = 61 then 1 else if c = 33 then 2 else if c = 60 then (bif eq then 3 else 5) else (bif eq then 4 else 6)
def sCnd2 (T : Int → Int) (n : Int) (l : sD) (g q : Int) : Int ⊕ (sE × Int) := match sSide T n q with
  | .inl e => .inl e
  | .inr (r, q2) => if tH T n q2 = 93 then .inr ((4, [], nnu, g, l, r), q2 + 1) else .inl q2
def sCnd (T : Int → Int) (n p : Int) : Int ⊕ (sE × Int) := match sSide T n p with
  | .inl e => .inl e
  | .inr (l, q) => if tH T n q = 61 ∨ tH T n q = 33 ∨ tH T n q = 60 ∨ tH T n q = 62 then
      (if tH T n (q + 1) = 61 then sCnd2 T n l (sgn (tH T n q) true) (q + 1 + 1) else if tH T n q = 61 ∨ tH T n q = 33 then .inl (q + 1) else sCnd2 T n l (sgn (tH T n q) false) (q + 1))
    else if tH T n q = 93 then .inr ((4, [], nnu, 0, l, nsd), q + 1) else .inl q
def sOpt (T : Int → Int) (n p : Int) (z : Bool) : Int ⊕ (Option Int × Int) := if pN (tH T n p) = true then (match sNum T n p with
    | .inl e => .inl e
    | .inr (x, q) => if z = true ∧ x = 0 then .inl p else .inr (some x, q)) else .inr (none, p)
def bit1 (a : Option Int) (k : Int) : Int := match a with
  | none => 0
  | some _ => k
def nm0 (a : Option Int) : Int := match a with
  | none => 0
  | some x => x
def nmb (a b c : Option Int) : Int × Int × Int × Int := (bit1 a 1 + bit1 b 2 + bit1 c 4, nm0 a, nm0 b, nm0 c)
def sNe (T : Int → Int) (n : Int) (what : Int) (a b c : Option Int) (q : Int) : Int ⊕ (sE × Int) := if tH T n q = 93 then .inr ((what, [], nmb a b c, 0, nsd, nsd), q + 1) else .inl q
def sNmb (T : Int → Int) (n p : Int) : Int ⊕ (sE × Int) := match sOpt T n p false with
  | .inl e => .inl e
  | .inr (a, q) => if tH T n q = 58 then (match sOpt T n (q + 1) false with
      | .inl e => .inl e
      | .inr (b, q2) => if tH T n q2 = 58 then (match sOpt T n (q2 + 1) true with
          | .inl e => .inl e
          | .inr (c, q3) => sNe T n 5 a b c q3) else sNe T n 5 a b none q2)
    else if a = none then .inl q else sNe T n 1 a none none q
def sBr (T : Int → Int) (n p : Int) (k : Nat) : Int ⊕ (sE × Int) := if k = 12 then .inl p
  else if tH T n (p + 1) = 93 then .inr ((6, [], nnu, 0, nsd, nsd), p + 1 + 1)
  else if tH T n (p + 1) = 42 then (if tH T n (p + 1 + 1) = 93 then .inr ((2, [], nnu, 0, nsd, nsd), p + 1 + 1 + 1) else .inl (p + 1 + 1))
  else if tH T n (p + 1) = 63 then sCnd T n (p + 1 + 1) else sNmb T n (p + 1)
def sNxt (T : Int → Int) (n p : Int) (k : Nat) : Int ⊕ (sE × Int) := if tH T n p = 91 then sBr T n p k else if k = 12 then .inl p
  else if tH T n (p + 1) = 42 then .inr ((3, [], nnu, 0, nsd, nsd), p + 1 + 1) else (match sKey T n (p + 1) with
    | .inl e => .inl e
    | .inr (s, q) => .inr ((0, s, nnu, 0, nsd, nsd), q))
def sWrd (T : Int → Int) (n : Int) (s : List Int) (p q : Int) : Int ⊕ (sT × Int) := if wordS s = -1 then .inl p
  else if pL (tH T n (q + 1)) = true then (if ¬ wordS s = 3 then .inl (q + 1) else (match sKey T n (q + 1) with
    | .inl e => .inl e
    | .inr (r, q2) => if tH T n q2 = 41 then .inr ((wordS s, r, []), q2 + 1) else .inl q2))
  else if tH T n (q + 1) = 41 then .inr ((wordS s, [], []), q + 1 + 1) else .inl (q + 1)
def sFst (T : Int → Int) (n p : Int) (k : Nat) : Int ⊕ ((sT ⊕ List sE) × Int) :=
  if pL (tH T n p) = true then (match sKey T n p with
    | .inl e => .inl e
    | .inr (s, q) => if tH T n q = 40 then (match sWrd T n s p q with
        | .inl e => .inl e
        | .inr (st, q2) => .inr (.inl st, q2)) else if k = 12 then .inl p else .inr (.inr [(0, s, nnu, 0, nsd, nsd)], q))
  else if tH T n p = 91 then (match sBr T n p k with
    | .inl e => .inl e
    | .inr (e, q) => .inr (.inr [e], q))
  else if tH T n p = 64 then .inr (.inr [], p + 1) else .inl p
def sStp (T : Int → Int) (n : Int) (k : Nat) : Nat → List sE → Int → Int ⊕ (List sE × Int)
  | 0, acc, p => .inr (acc, p)
  | f + 1, acc, p => if tH T n p = 46 ∨ tH T n p = 91 then (match sNxt T n p (k + acc.length) with
      | .inl e => .inl e
      | .inr (e, q) => sStp T n k f (acc ++ [e]) q) else .inr (acc, p)
def sStg (T : Int → Int) (n p : Int) (k : Nat) : Int ⊕ (sT × Int × Nat) := match sFst T n p k with
  | .inl e => .inl e
  | .inr (.inl st, q) => .inr (st, q, k)
  | .inr (.inr acc, q) => (match sStp T n k 14 acc q with
    | .inl e => .inl e
    | .inr (l, q2) => .inr ((-1, [], l), q2, k + l.length))
def sQs (T : Int → Int) (n : Int) : Nat → List sT → Nat → Int → Int ⊕ List sT
  | 0, _, _, p => .inl p
  | f + 1, acc, k, p => match sStg T n p k with
    | .inl e => .inl e
    | .inr (st, q, k2) => if tH T n q = 124 then sQs T n f (acc ++ [st]) k2 (q + 1) else if q < n then .inl q else .inr (acc ++ [st])
def sQry (T : Int → Int) (n : Int) : Int ⊕ List sT := sQs T n 161 [] 0 0
/-! where the places lie -/
theorem tH_lt {T : Int → Int} {n p c : Int} (ht : tOK T n) (h0 : 0 ≤ p) (h : tH T n p = c) (hc : ¬ c = -1) : p + 1 ≤ n := by
  have := (tH_r (p := p) ht h0).2.2.2 (by rw [h]; exact hc)
  omega
def sR (n : Int) {α : Type} (p : Int) (Q : α → Prop) (r : Int ⊕ (α × Int)) : Prop := (∀ e, r = .inl e → p ≤ e ∧ e ≤ n) ∧ (∀ a q, r = .inr (a, q) → p < q ∧ q ≤ n ∧ Q a)
theorem sR_l {n : Int} {α : Type} {p e : Int} {Q : α → Prop} (h : p ≤ e ∧ e ≤ n) : sR n p Q (.inl e : Int ⊕ (α × Int)) := ⟨fun e' h' => by cases h'; exact h, fun a q h' => by cases h'⟩
theorem sR_r {n : Int} {α : Type} {p q : Int} {Q : α → Prop} {a : α} (h : p < q ∧ q ≤ n) (hQ : Q a) : sR n p Q (.inr (a, q) : Int ⊕ (α × Int)) := ⟨fun e' h' => (by cases h'), fun a q h' => by cases h'; exact ⟨h.1, h.2, hQ⟩⟩
theorem sR_mono {n : Int} {α : Type} {p p' : Int} {Q Q' : α → Prop} {r : Int ⊕ (α × Int)} (h : sR n p' Q r) (hp : p ≤ p') (hQ : ∀ a, Q a → Q' a) : sR n p Q' r := ⟨fun e he => ⟨by have := (h.1 e he).1; omega, (h.1 e he).2⟩, fun a q ha => ⟨by have := (h.2 a q ha).1; omega, (h.2 a q ha).2.1, hQ a (h.2 a q ha).2.2⟩⟩
theorem sKey_R {T : Int → Int} {n p : Int} (h0 : 0 ≤ p) (hp : p ≤ n) : sR n p (fun s => tx s) (sKey T n p) := ⟨fun e he => sKey_er hp he, fun s q hs => ⟨(sKey_q h0 hp hs).1, (sKey_q h0 hp hs).2.1, (sKey_q h0 hp hs).2.2.1⟩⟩
theorem sNum_R {T : Int → Int} {n p : Int} (ht : tOK T n) (h0 : 0 ≤ p) (hp : p ≤ n) : sR n p (fun x => -1000000 < x ∧ x < 1000000) (sNum T n p) := ⟨fun e he => sNum_er ht h0 hp he, fun s q hs => ⟨(sNum_ok ht h0 hp hs).1, (sNum_ok ht h0 hp hs).2.1, (sNum_ok ht h0 hp hs).2.2⟩⟩
theorem sText_R {T : Int → Int} {n p : Int} (ht : tOK T n) (h0 : 0 ≤ p) (hp : p < n) : sR n p (fun s => tx s) (sText T n p) := ⟨fun e he => sText_er h0 hp he, fun s q hs => sText_ok ht h0 hp hs⟩
def ksO (ks : List (List Int)) : Prop := ks.length ≤ 3 ∧ ∀ s ∈ ks, tx s
theorem sPth_R {T : Int → Int} {n : Int} (ht : tOK T n) : ∀ (f : Nat) (ks : List (List Int)) (p : Int), ks.length + f = 4 → (∀ s ∈ ks, tx s) → 0 ≤ p → p ≤ n → (∀ e, sPth T n f ks p = .inl e → p ≤ e ∧ e ≤ n) ∧ (∀ a q, sPth T n f ks p = .inr (a, q) → p ≤ q ∧ q ≤ n ∧ (f = 0 ∨ ksO a))
  | 0, ks, p, hf, hk, h0, hp => ⟨fun e h => (by cases h), fun a q h => by cases h; exact ⟨Int.le_refl _, hp, Or.inl rfl⟩⟩
  | f + 1, ks, p, hf, hk, h0, hp => by
    show (∀ e, (if tH T n p = 46 then (if ks.length = 3 then .inl (p + 1) else (match sKey T n (p + 1) with
      | .inl e => .inl e
      | .inr (s, q) => sPth T n f (ks ++ [s]) q)) else .inr (ks, p) : Int ⊕ (List (List Int) × Int)) = .inl e → p ≤ e ∧ e ≤ n) ∧ (∀ a q, (if tH T n p = 46 then (if ks.length = 3 then .inl (p + 1) else (match sKey T n (p + 1) with
      | .inl e => .inl e
      | .inr (s, q) => sPth T n f (ks ++ [s]) q)) else .inr (ks, p) : Int ⊕ (List (List Int) × Int)) = .inr (a, q) → p ≤ q ∧ q ≤ n ∧ (f + 1 = 0 ∨ ksO a))
    by_cases h46 : tH T n p = 46
    · have hl := tH_lt ht h0 h46 (by decide)
      rw [if_pos h46]
      by_cases h3 : ks.length = 3
      · rw [if_pos h3]
        exact ⟨fun e h => by cases h; exact ⟨by omega, hl⟩, fun a q h => by cases h⟩
      · rw [if_neg h3]
        have hk2 := sKey_R (T := T) (n := n) (p := p + 1) (by omega) hl
        cases hs : sKey T n (p + 1) with
        | inl e =>
          have := hk2.1 e hs
          exact ⟨fun e' h => by cases h; omega, fun a q h => by cases h⟩
        | inr x =>
          obtain ⟨s, q⟩ := x
          obtain ⟨k1, k2, k3⟩ := hk2.2 s q hs
          have ih := sPth_R ht f (ks ++ [s]) q (by rw [List.length_append]; simp; omega) (fun t hh => by
            rcases List.mem_append.mp hh with hh | hh
            · exact hk t hh
            · rw [List.mem_singleton.mp hh]; exact k3) (by omega) k2
          refine ⟨fun e h => ?_, fun a q' h => ?_⟩
          · have := ih.1 e h
            omega
          · have := ih.2 a q' h
            refine ⟨by omega, this.2.1, Or.inr ?_⟩
            rcases this.2.2 with hf0 | hh
            · exact absurd hf0 (by omega)
            · exact hh
    · rw [if_neg h46]
      exact ⟨fun e h => (by cases h), fun a q h => by cases h; exact ⟨Int.le_refl _, hp, Or.inr ⟨by omega, hk⟩⟩⟩
