/-! ===== room: the volume of a query's run; the words of a query ===== -/
theorem pck_ct {e : sE} {v w : vT} (h : pckS e v = some w) : fct w.2 ≤ fct v.2 := by
  have hm : w ∈ sib v.2 := by
    unfold pckS at h
    split at h
    · unfold vget at h
      split at h
      · exact fget_mem _ _ h
      · cases h
    · unfold idxS at h
      split at h
      · exact List.mem_of_getElem? h
      · cases h
  have a := wS_mem _ _ hm
  rw [wS_sib] at a
  omega
theorem rsN_s {l : List sE} {m : Nat} (hl : ∀ v : vT, rsN l v ≤ m * (6 + 6 * fct v.2)) : ∀ L : List vT, (L.map (rsN l)).sum ≤ m * (6 * wS L)
  | [] => Nat.zero_le _
  | v :: L => by
    rw [List.map_cons, List.sum_cons, wS_cons]
    have a := hl v
    have b := rsN_s hl L
    have c : m * (6 * (1 + fct v.2 + wS L)) = m * (6 + 6 * fct v.2) + m * (6 * wS L) := by
      rw [← Nat.mul_add]
      congr 1
      omega
    omega
theorem rsN_c : ∀ (l : List sE) (v : vT), (∀ e ∈ l, eok1 e) → rsN l v ≤ l.length * (6 + 6 * fct v.2)
  | [], v, _ => Nat.zero_le _
  | e :: l, v, h => by
    have he := h e List.mem_cons_self
    have ih := fun w => rsN_c l w (fun e' h' => h e' (List.mem_cons_of_mem _ h'))
    have c : (l.length + 1) * (6 + 6 * fct v.2) = l.length * (6 + 6 * fct v.2) + (6 + 6 * fct v.2) := Nat.succ_mul _ _
    show rsN (e :: l) v ≤ (l.length + 1) * (6 + 6 * fct v.2)
    unfold rsN
    by_cases h1 : e.1 ≤ 1
    · rw [if_pos h1]
      cases hp : pckS e v with
      | none => exact Nat.zero_le _
      | some w =>
        have a := ih w
        have b := pck_ct hp
        have d : l.length * (6 + 6 * fct w.2) ≤ l.length * (6 + 6 * fct v.2) := Nat.mul_le_mul_left _ (by omega)
        show rsN l w ≤ _
        omega
    · rw [if_neg h1]
      by_cases hf : fitP e v.1 = true
      · rw [if_pos hf]
        have a := rsN_s ih (selS e v.2)
        have b := selS_w he v.2
        have d : l.length * (6 * wS (selS e v.2)) ≤ l.length * (6 + 6 * fct v.2) := Nat.mul_le_mul_left _ (by omega)
        have f := fsz_le v.2
        have g : (if e.1 = 6 then 6 + 5 * fct v.2 else fsz v.2) ≤ 6 + 5 * fct v.2 := by
          split <;> omega
        omega
      · rw [if_neg hf]
        exact Nat.zero_le _
theorem rsO_m {W : Nat} {acc : List sE} {x : Option vT} (ha : ∀ e ∈ acc, eok1 e) (hx : xOK W x) : rsO acc x ≤ acc.length * (3 * W + 6) := by
  cases x with
  | none => exact Nat.zero_le _
  | some v =>
    obtain ⟨h1, h2⟩ := hx v rfl
    have a := rsN_c acc v ha
    have b := fct_vl h1
    have c : acc.length * (6 + 6 * fct v.2) ≤ acc.length * (3 * W + 6) := Nat.mul_le_mul_left _ (by omega)
    exact Nat.le_trans a c
theorem rsT_m {W : Nat} : ∀ (l acc : List sE) (x : Option vT), (∀ e ∈ l, eok1 e) → (∀ e ∈ acc, eok1 e) → xOK W x → rsT x acc l ≤ (acc.length + l.length) * (3 * W + 6)
  | [], acc, x, _, ha, hx => rsO_m ha hx
  | e :: l, acc, x, hl, ha, hx => by
    have he := hl e List.mem_cons_self
    have hl2 : ∀ e ∈ l, eok1 e := fun y hy => hl y (List.mem_cons_of_mem _ hy)
    by_cases h6 : e.1 = 6
    · have e1 : rsT x acc (e :: l) = rsO acc x + rsT (x.bind (evS acc)) [e] l := if_pos h6
      have a := rsO_m ha hx
      have b := rsT_m l [e] (x.bind (evS acc)) hl2 (fun e' h' => by rw [List.mem_singleton.mp h']; exact he) (xOK_b ha hx)
      have c : (acc.length + (l.length + 1)) * (3 * W + 6) = acc.length * (3 * W + 6) + (1 + l.length) * (3 * W + 6) := by rw [← Nat.add_mul, Nat.add_comm l.length 1]
      have b : rsT (x.bind (evS acc)) [e] l ≤ (1 + l.length) * (3 * W + 6) := b
      rw [e1]
      show _ ≤ (acc.length + (l.length + 1)) * (3 * W + 6)
      omega
    · have e1 : rsT x acc (e :: l) = rsT x (acc ++ [e]) l := if_neg h6
      have b := rsT_m l (acc ++ [e]) x hl2 (fun e' h' => by
        rcases List.mem_append.mp h' with z | z
        · exact ha e' z
        · rw [List.mem_singleton.mp z]
          exact he) hx
      rw [e1]
      rw [List.length_append] at b
      have b : rsT x (acc ++ [e]) l ≤ (acc.length + 1 + l.length) * (3 * W + 6) := b
      show _ ≤ (acc.length + (l.length + 1)) * (3 * W + 6)
      rw [show acc.length + (l.length + 1) = acc.length + 1 + l.length by omega]
      exact b
theorem rnW_m {W : Nat} (hW : 12 ≤ W) : ∀ (L : List sT) (v : vT), (∀ st ∈ L, sgP st) → prP v → vl v ≤ W → rnW L v ≤ qnS L * (4 * W + 37) + wnS L * (W + 24)
  | [], _, _, _, _ => Nat.zero_le _
  | st :: L, v, hs, hp, hv => by
    have h1 := hs st List.mem_cons_self
    have ih := rnW_m hW L (stgV (stg st v)) (fun s h => hs s (List.mem_cons_of_mem _ h)) (stg_p h1 hp) (stg_v hW h1 hp hv)
    have e1 : rnW (st :: L) v = stW st v + rnW L (stgV (stg st v)) := rfl
    have e2 : qnS (st :: L) = stS st + qnS L := rfl
    have e4 : wnS (st :: L) = (if st.1 < 0 then 0 else 1) + wnS L := rfl
    have e3 : (stS st + qnS L) * (4 * W + 37) = stS st * (4 * W + 37) + qnS L * (4 * W + 37) := Nat.add_mul _ _ _
    have e5 : ((if st.1 < 0 then 0 else 1) + wnS L) * (W + 24) = (if st.1 < 0 then 0 else 1) * (W + 24) + wnS L * (W + 24) := Nat.add_mul _ _ _
    have a : stW st v ≤ stS st * (4 * W + 37) + (if st.1 < 0 then 0 else 1) * (W + 24) := by
      unfold stW stS
      by_cases hn : st.1 < 0
      · rw [if_pos hn, if_pos hn, if_pos hn]
        have h2 : ∀ e ∈ st.2.2, stO e := by
          rcases h1 with ⟨-, z, -⟩ | ⟨z, -⟩
          · exact z
          · omega
        have hx : xOK W (some v) := fun w hw => by cases hw; exact ⟨hp.2.1, hv⟩
        have b := clT_m (W := W) st.2.2 [] (some v) (fun e h => stO_ok (h2 e h)) ⟨fun e h => absurd h List.not_mem_nil, fun e h => absurd h List.not_mem_nil⟩ hx
        have b : 6 * clT (some v) [] st.2.2 ≤ (0 + st.2.2.length) * (W + 31) := b
        have c := rsT_m (W := W) st.2.2 [] (some v) (fun e h => stO_ok (h2 e h)) (fun e h => absurd h List.not_mem_nil) hx
        have c : rsT (some v) [] st.2.2 ≤ (0 + st.2.2.length) * (3 * W + 6) := c
        rw [Nat.zero_add] at b c
        have d : st.2.2.length * (4 * W + 37) = st.2.2.length * (W + 31) + st.2.2.length * (3 * W + 6) := by
          rw [← Nat.mul_add]
          congr 1
          omega
        omega
      · rw [if_neg hn, if_neg hn, if_neg hn]
        have b := fct_vl hp.2.1
        have c := fsz_le v.2
        omega
    rw [e1, e2, e3, e4, e5]
    omega
theorem wnS_app (st : sT) : ∀ l : List sT, wnS (l ++ [st]) = wnS l + (if st.1 < 0 then 0 else 1)
  | [] => by
    show (if st.1 < 0 then 0 else 1) + 0 = 0 + (if st.1 < 0 then 0 else 1)
    omega
  | a :: l => by
    show (if a.1 < 0 then 0 else 1) + wnS (l ++ [st]) = (if a.1 < 0 then 0 else 1) + wnS l + (if st.1 < 0 then 0 else 1)
    rw [wnS_app st l]
    omega
theorem sStg_w {T : Int → Int} {n p : Int} {k : Nat} (ht : tOK T n) (h0 : 0 ≤ p) (hp : p ≤ n) (hk : k ≤ 12) {st : sT} {q : Int} {k2 : Nat} (h : sStg T n p k = .inr (st, q, k2)) : st.1 < 0 ∨ p + 3 ≤ q := by
  unfold sStg at h
  cases hs : sFst T n p k with
  | inl e =>
    rw [hs] at h
    cases h
  | inr x =>
    obtain ⟨a, q1⟩ := x
    rw [hs] at h
    cases a with
    | inl st' =>
      have z := ((sFst_R (k := k) ht h0 hp hk).2 _ _ hs).2.2.2
      dsimp only at h
      cases h
      exact Or.inr z
    | inr acc =>
      dsimp only at h
      cases hs2 : sStp T n k 14 acc q1 with
      | inl e =>
        rw [hs2] at h
        cases h
      | inr x =>
        obtain ⟨l, q2⟩ := x
        rw [hs2] at h
        cases h
        exact Or.inl (show (-1 : Int) < 0 by decide)
theorem sQs_w {T : Int → Int} {n : Int} (ht : tOK T n) : ∀ (f : Nat) (acc : List sT) (k : Nat) (p : Int) (l : List sT), 0 ≤ p → p ≤ n → k ≤ 12 → 4 * ((wnS acc : Nat) : Int) ≤ p → sQs T n f acc k p = .inr l → 4 * ((wnS l : Nat) : Int) ≤ n + 1
  | 0, acc, k, p, l, h0, hp, hk, ha, h => by
    cases h
  | f + 1, acc, k, p, l, h0, hp, hk, ha, h => by
    unfold sQs at h
    cases hs : sStg T n p k with
    | inl e =>
      rw [hs] at h
      cases h
    | inr x =>
      obtain ⟨st, q, k2⟩ := x
      rw [hs] at h
      dsimp only at h
      obtain ⟨g1, g2, g3, g4, g5, g6⟩ := (sStg_R (p := p) (k := k) ht h0 hp hk).2 st q k2 hs
      have hac : 4 * ((wnS (acc ++ [st]) : Nat) : Int) ≤ q + 1 := by
        rw [wnS_app]
        rcases sStg_w ht h0 hp hk hs with z | z
        · rw [if_pos z]
          omega
        · have : (if st.1 < 0 then 0 else 1 : Nat) ≤ 1 := by
            split <;> omega
          omega
      by_cases h1 : tH T n q = 124
      · have hl := tH_lt ht (by omega) h1 (by decide)
        rw [if_pos h1] at h
        exact sQs_w ht f (acc ++ [st]) k2 (q + 1) l (by omega) hl g5 hac h
      · rw [if_neg h1] at h
        by_cases h2 : q < n
        · rw [if_pos h2] at h
          cases h
        · rw [if_neg h2] at h
          cases h
          omega
theorem sQry_w {T : Int → Int} {n : Int} (ht : tOK T n) {l : List sT} (h : sQry T n = .inr l) : wnS l ≤ 40 := by
  have hn := ht.2.1
  have hn0 : 0 ≤ n := ht.1
  have a := sQs_w ht 161 [] 0 0 l (Int.le_refl 0) hn0 (by decide) (by show 4 * ((0 : Nat) : Int) ≤ 0; decide) h
  omega
/-- what is known of a query that was read -/
def qyP (L : List sT) : Prop := (∀ st ∈ L, sgP st) ∧ qnS L ≤ 12 ∧ wnS L ≤ 40
theorem sQry_p {T : Int → Int} {n : Int} (ht : tOK T n) {l : List sT} (h : sQry T n = .inr l) : qyP l := ⟨(sQry_P ht h).1, (sQry_P ht h).2, sQry_w ht h⟩
theorem rn_all {W : Nat} (hW : 12 ≤ W) {L : List sT} (hL : qyP L) {v : vT} (hp : prP v) (hv : vl v ≤ W) : rnC L v ≤ 6 * W + 426 ∧ rnW L v ≤ 88 * W + 1404 := by
  have a := rnC_m hW L v hL.1 hp hv
  have b := rnW_m hW L v hL.1 hp hv
  have c : qnS L * (W + 31) ≤ 12 * (W + 31) := Nat.mul_le_mul_right _ hL.2.1
  have d : qnS L * (4 * W + 37) ≤ 12 * (4 * W + 37) := Nat.mul_le_mul_right _ hL.2.1
  have e : wnS L * (W + 24) ≤ 40 * (W + 24) := Nat.mul_le_mul_right _ hL.2.2
  have f := hL.2.2
  constructor <;> omega
