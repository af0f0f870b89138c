/-! ===== the class: what a query is in the heap (printed by program: gen105.py) ===== -/
def csg (g : Int) : Int := if g = 3 then 4 else if g = 4 then 6 else if g = 5 then 3 else if g = 6 then 5 else g
def ckd (k : Int) : Int := if k = 5 then 2 else if k = 6 then 5 else k
def cfr (e : sE) : Int := if e.1 = 1 then e.2.2.1.2.1 else if e.1 = 5 then (if e.2.2.1.1 % 2 = 1 then e.2.2.1.2.1 else if 0 < slC e.2.2.1 then 0 else 1000000) else 0
def cen (e : sE) : Int := if e.1 = 5 then (if e.2.2.1.1 / 2 % 2 = 1 then e.2.2.1.2.2.1 else if 0 < slC e.2.2.1 then 1000000 else -1000000) else 1000000
def cby (e : sE) : Int := if e.1 = 5 then slC e.2.2.1 else 1
def cky (e : sE) : List Int := if e.1 = 0 then e.2.1 else []
def cgg (e : sE) : Int := if e.1 = 4 then csg e.2.2.2.1 else 0
abbrev hQ (h h' : jx_H) (X X' : Nat → Prop) : Prop := ∀ (c : Nat) (y : jx_C), zc X c → h[c]? = some y → zc X' c ∧ h'[c]? = some y
abbrev vT0 : (Nat → Value) → (Nat → Value) → Prop := fun _ _ => True
/-- the keys of a side in their row -/
def ksR (h : jx_H) (X : Nat → Prop) (g : Nat → Value) (ks : List (List Int)) : Prop := ∀ (i : Nat) (s : List Int), ks[i]? = some s → ∃ b, g i = .ref b ∧ vNd h X b (4, 0, s, []) 0 vT0
def cdR (h : jx_H) (X : Nat → Prop) (a : Nat) (s : sD) : Prop := zc X a ∧ ∃ (ra rn : Nat) (g : Nat → Value) (said : Value), zc X ra ∧ h[a]? = some (.inr (15, [said, .ref ra, .int (Int32.ofInt ((s.2.2.2.length : Nat) : Int))])) ∧ h[ra]? = some (.inl (4, rn, g)) ∧ ((s.1 = 1 ∧ said = .null ∧ rn = 3 ∧ s.2.2.2.length ≤ 3 ∧ ksR h X g s.2.2.2) ∨ (s.1 = 2 ∧ ∃ b, said = .ref b ∧ vN h X b (3, s.2.1, [], []) .leaf) ∨ (s.1 = 3 ∧ ∃ b, said = .ref b ∧ vN h X b (4, 0, s.2.2.1, []) .leaf))
def spR (h : jx_H) (X : Nat → Prop) (a : Nat) (e : sE) : Prop := zc X a ∧ ∃ (t : Nat) (le ri : Value), h[a]? = some (.inr (14, [.int (Int32.ofInt (ckd e.1)), .ref t, .int (Int32.ofInt (cfr e)), .int (Int32.ofInt (cen e)), .int (Int32.ofInt (cby e)), le, .int (Int32.ofInt (cgg e)), ri])) ∧ strR h X t (cky e) ∧ (e.1 = 4 → (∃ b, le = .ref b ∧ cdR h X b e.2.2.2.2.1) ∧ ((e.2.2.2.1 = 0 ∧ ri = .null) ∨ (¬ e.2.2.2.1 = 0 ∧ ∃ b, ri = .ref b ∧ cdR h X b e.2.2.2.2.2)))
def alC (h : jx_H) (X : Nat → Prop) (a ea cap n : Nat) (f : Nat → Value) : Prop := zc X a ∧ (∃ md : Int, h[a]? = some (.inr (12, [.ref ea, .int (Int32.ofInt (((n : Nat) : Int))), .int (Int32.ofInt (md))]))) ∧ ((ea = jx_big + 53 ∧ cap = 0 ∧ n = 0) ∨ (zc X ea ∧ ¬ ea = a ∧ h[ea]? = some (.inl (6, cap, f)) ∧ n ≤ cap ∧ 10 ≤ cap ∧ cap ≤ 300))
def spL (h : jx_H) (X : Nat → Prop) (f : Nat → Value) (l : List sE) : Prop := ∀ (i : Nat) (e : sE), l[i]? = some e → ∃ b, f i = .ref b ∧ spR h X b e
def sgR (h : jx_H) (X : Nat → Prop) (a : Nat) (st : sT) : Prop := zc X a ∧ ∃ (t la : Nat) (w : Value), h[a]? = some (.inr (13, [w, .ref t, .ref la])) ∧ ((st.1 = -1 ∧ w = .null ∧ ∃ (ea cap : Nat) (f : Nat → Value), alC h X la ea cap st.2.2.length f ∧ spL h X f st.2.2) ∨ ((0 ≤ st.1 ∧ st.1 ≤ 8) ∧ w = .ref (jx_big + st.1.toNat) ∧ strR h X t st.2.1))
def sgL (h : jx_H) (X : Nat → Prop) (f : Nat → Value) (l : List sT) : Prop := ∀ (i : Nat) (st : sT), l[i]? = some st → ∃ b, f i = .ref b ∧ sgR h X b st
def qyR (h : jx_H) (X : Nat → Prop) (a : Nat) (l : List sT) : Prop := zc X a ∧ ∃ (la ea cap : Nat) (f : Nat → Value), h[a]? = some (.inr (11, [.ref la])) ∧ alC h X la ea cap l.length f ∧ sgL h X f l
section QF
variable {h h' : jx_H} {X X' : Nat → Prop}
theorem ksR_fr (hq : hQ h h' X X') {g : Nat → Value} {ks : List (List Int)} (hv : ksR h X g ks) : ksR h' X' g ks := fun i s hs => by
  obtain ⟨b, b1, b2⟩ := hv i s hs
  exact ⟨b, b1, vNd_fr hq (fun _ _ z => z) b2⟩
theorem cdR_fr (hq : hQ h h' X X') {a : Nat} {s : sD} (hv : cdR h X a s) : cdR h' X' a s := by
  obtain ⟨z, ra, rn, g, said, zr, hA, hR, ho⟩ := hv
  have q1 := hq a _ z hA
  have q2 := hq ra _ zr hR
  refine ⟨q1.1, ra, rn, g, said, q2.1, q1.2, q2.2, ?_⟩
  rcases ho with ⟨a1, a2, a3, a4, a5⟩ | ⟨a1, b, a2, a3⟩ | ⟨a1, b, a2, a3⟩
  · exact Or.inl ⟨a1, a2, a3, a4, ksR_fr hq a5⟩
  · exact Or.inr (Or.inl ⟨a1, b, a2, vN_fr hq a3⟩)
  · exact Or.inr (Or.inr ⟨a1, b, a2, vN_fr hq a3⟩)
theorem spR_fr (hq : hQ h h' X X') {a : Nat} {e : sE} (hv : spR h X a e) : spR h' X' a e := by
  obtain ⟨z, t, le, ri, hA, hT, ho⟩ := hv
  have q1 := hq a _ z hA
  refine ⟨q1.1, t, le, ri, q1.2, strR_fr hq hT, fun h4 => ?_⟩
  obtain ⟨⟨b, b1, b2⟩, o2⟩ := ho h4
  refine ⟨⟨b, b1, cdR_fr hq b2⟩, ?_⟩
  rcases o2 with o2 | ⟨g0, b, b1, b2⟩
  · exact Or.inl o2
  · exact Or.inr ⟨g0, b, b1, cdR_fr hq b2⟩
theorem alC_fr (hq : hQ h h' X X') {a ea cap n : Nat} {f : Nat → Value} (hv : alC h X a ea cap n f) : alC h' X' a ea cap n f := by
  obtain ⟨z, ⟨md, hA⟩, ho⟩ := hv
  have q1 := hq a _ z hA
  refine ⟨q1.1, ⟨md, q1.2⟩, ?_⟩
  rcases ho with o1 | ⟨o1, o2, o3, o4⟩
  · exact Or.inl o1
  · have q2 := hq ea _ o1 o3
    exact Or.inr ⟨q2.1, o2, q2.2, o4⟩
theorem spL_fr (hq : hQ h h' X X') {f : Nat → Value} {l : List sE} (hv : spL h X f l) : spL h' X' f l := fun i e he => by
  obtain ⟨b, b1, b2⟩ := hv i e he
  exact ⟨b, b1, spR_fr hq b2⟩
theorem sgR_fr (hq : hQ h h' X X') {a : Nat} {st : sT} (hv : sgR h X a st) : sgR h' X' a st := by
  obtain ⟨z, t, la, w, hA, ho⟩ := hv
  have q1 := hq a _ z hA
  refine ⟨q1.1, t, la, w, q1.2, ?_⟩
  rcases ho with ⟨o1, o2, ea, cap, f, o3, o4⟩ | ⟨o1, o2, o3⟩
  · exact Or.inl ⟨o1, o2, ea, cap, f, alC_fr hq o3, spL_fr hq o4⟩
  · exact Or.inr ⟨o1, o2, strR_fr hq o3⟩
theorem sgL_fr (hq : hQ h h' X X') {f : Nat → Value} {l : List sT} (hv : sgL h X f l) : sgL h' X' f l := fun i e he => by
  obtain ⟨b, b1, b2⟩ := hv i e he
  exact ⟨b, b1, sgR_fr hq b2⟩
theorem qyR_fr (hq : hQ h h' X X') {a : Nat} {l : List sT} (hv : qyR h X a l) : qyR h' X' a l := by
  obtain ⟨z, la, ea, cap, f, hA, o1, o2⟩ := hv
  have q1 := hq a _ z hA
  exact ⟨q1.1, la, ea, cap, f, q1.2, alC_fr hq o1, sgL_fr hq o2⟩
end QF
theorem gE_lt {α : Type} {l : List α} {i : Nat} (h : i < l.length) : ∃ x, l[i]? = some x := ⟨_, List.getElem?_eq_getElem h⟩
theorem alC_U {h : jx_H} {X : Nat → Prop} {a ea cap n : Nat} {f : Nat → Value} (hv : alC h X a ea cap n f) (he : ∀ i, i < n → ∃ (b ci : Nat) (fs : List Value), f i = .ref b ∧ (50 ≤ b ∧ b < 4000000000) ∧ h[b]? = some (.inr (ci, fs)) ∧ (ci = 13 ∨ ci = 14)) : alU h a ea cap n f := by
  obtain ⟨z, hA, ho⟩ := hv
  refine ⟨⟨z.1, z.2.1⟩, hA, ?_, he⟩
  rcases ho with o1 | ⟨o1, o2⟩
  · exact Or.inl o1
  · exact Or.inr ⟨o1.1, o1.2.1, o2⟩
theorem spL_U {h : jx_H} {X X' : Nat → Prop} {a ea cap : Nat} {f : Nat → Value} {l : List sE} (hv : alC h X a ea cap l.length f) (hl : spL h X' f l) : alU h a ea cap l.length f := alC_U hv (fun i hi => by
  obtain ⟨e, he⟩ := gE_lt hi
  obtain ⟨b, b1, z, t, le, ri, hA, -⟩ := hl i e he
  exact ⟨b, 14, _, b1, ⟨z.1, z.2.1⟩, hA, Or.inr rfl⟩)
theorem sgL_U {h : jx_H} {X X' : Nat → Prop} {a ea cap : Nat} {f : Nat → Value} {l : List sT} (hv : alC h X a ea cap l.length f) (hl : sgL h X' f l) : alU h a ea cap l.length f := alC_U hv (fun i hi => by
  obtain ⟨e, he⟩ := gE_lt hi
  obtain ⟨b, b1, z, t, la, w, hA, -⟩ := hl i e he
  exact ⟨b, 13, _, b1, ⟨z.1, z.2.1⟩, hA, Or.inl rfl⟩)
/-- the list behind one more -/
theorem alN_C {h : jx_H} {X : Nat → Prop} {a ea cap n b : Nat} {f : Nat → Value} {h' : jx_H} {ea' cap' : Nat} {f' : Nat → Value} (hv : alC h X a ea cap n f) (hN : ∀ c, h.length ≤ c → ¬ X c) (hm : alN h a ea cap n b f h' ea' cap' f') : alC h' X a ea' cap' (n + 1) f' := by
  obtain ⟨m1, m2, m3, m4, m5, m6, m7, m8, m9, m10⟩ := hm
  obtain ⟨z, hA, ho⟩ := hv
  refine ⟨z, m1, Or.inr ⟨⟨m2.1, m2.2.1, ?_⟩, m2.2.2.1, m2.2.2.2.1, m2.2.2.2.2⟩⟩
  rcases m7 with e | e
  · rcases ho with o1 | ⟨o1, -⟩
    · have := m2.2.1
      have hb : jx_big = 4294967296 := rfl
      omega
    · rw [e]
      exact o1.2.2
  · exact hN _ (by omega)
