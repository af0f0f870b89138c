/-! ===== room: lists against letters ===== -/
theorem lsF_lw : ∀ F : FT, cnF F → 2 * lsF F + fsz F ≤ lw (sib F)
  | .leaf, _ => Nat.le_refl _
  | .inner s i u c n, h => by
    obtain ⟨h1, h2, h3⟩ := h
    have ihn := lsF_lw n h3
    have ihc := lsF_lw c h2
    have hv : 2 * ((if 5 ≤ i.1 then 1 else 0) + lsF c) ≤ vl (i, c) := by
      by_cases h5 : 5 ≤ i.1
      · rw [if_pos h5]
        have hg : 2 + (lw (sib c) - 1) ≤ vl (i, c) := vl_ge (v := (i, c)) h5
        cases c with
        | leaf =>
          have : lsF (.leaf : FT) = 0 := rfl
          omega
        | inner s' i' u' c' n' =>
          have : fsz (.inner s' i' u' c' n' : FT) = fsz n' + 1 := rfl
          omega
      · have hc : c = .leaf := h1.2.2 (by omega)
        rw [if_neg h5, hc]
        exact Nat.zero_le _
    have e1 : lw (sib (.inner s i u c n : FT)) = vl (i, c) + 1 + lw (sib n) := lw_cons _ _
    have e2 : lsF (.inner s i u c n : FT) = (if 5 ≤ i.1 then 1 else 0) + lsF c + lsF n := rfl
    have e3 : fsz (.inner s i u c n : FT) = fsz n + 1 := rfl
    rw [e1, e2, e3]
    omega
theorem lsn_vl {v : vT} (h : cnV v) : 2 * lsn v ≤ vl v := by
  unfold lsn
  by_cases h5 : 5 ≤ v.1.1
  · rw [if_pos h5]
    have hg := vl_ge h5
    have a := lsF_lw v.2 h.2
    have z : fsz v.2 = 0 → lsF v.2 = 0 := fun e => by
      cases hc : v.2 with
      | leaf => rfl
      | inner s' i' u' c' n' =>
        rw [hc] at e
        have : fsz (.inner s' i' u' c' n' : FT) = fsz n' + 1 := rfl
        omega
    by_cases e : fsz v.2 = 0
    · have := z e
      omega
    · omega
  · have hc : v.2 = .leaf := h.1.2.2 (by omega)
    rw [if_neg h5, hc]
    exact Nat.zero_le _
/-- the containers among some values -/
def cnS (l : List vT) : Nat := (l.map fun v => if 5 ≤ v.1.1 then 1 else 0).sum
theorem cnS_lw : ∀ l : List vT, 3 * cnS l ≤ lw l
  | [] => Nat.le_refl 0
  | v :: l => by
    have ih := cnS_lw l
    have e : cnS (v :: l) = (if 5 ≤ v.1.1 then 1 else 0) + cnS l := by
      unfold cnS
      rw [List.map_cons, List.sum_cons]
    rw [lw_cons, e]
    by_cases h5 : 5 ≤ v.1.1
    · rw [if_pos h5]
      have := vl_ge h5
      omega
    · rw [if_neg h5]
      omega
theorem clN_k {e : sE} (h6 : ¬ e.1 = 6) : ∀ L : List vT, ¬ e.1 ≤ 1 → (L.map (clN [e])).sum ≤ cnS L
  | [], _ => Nat.le_refl 0
  | v :: L, h1 => by
    have ih := clN_k h6 L h1
    have e0 : cnS (v :: L) = (if 5 ≤ v.1.1 then 1 else 0) + cnS L := by
      unfold cnS
      rw [List.map_cons, List.sum_cons]
    have z : ∀ L : List vT, (L.map (clN [])).sum = 0 := by
      intro L
      induction L with
      | nil => rfl
      | cons a L ih =>
        rw [List.map_cons, List.sum_cons, ih]
        rfl
    have hv : clN [e] v ≤ (if 5 ≤ v.1.1 then 1 else 0) := by
      unfold clN
      rw [if_neg h1]
      by_cases hf : fitP e v.1 = true
      · rw [if_pos hf, if_neg h6, z, if_pos (fit_5 hf)]
        exact Nat.le_refl 1
      · rw [if_neg hf]
        exact Nat.zero_le _
    rw [List.map_cons, List.sum_cons, e0]
    omega
/-- a part of two steps -/
theorem clN_2 {e e2 : sE} {v : vT} (he : eok1 e) (h6 : ¬ e2.1 = 6) : 3 * clN [e, e2] v ≤ vl v + 15 := by
  have one : ∀ w : vT, clN [e2] w ≤ 1 := fun w => by
    by_cases h1 : e2.1 ≤ 1
    · unfold clN
      rw [if_pos h1]
      cases pckS e2 w with
      | none => exact Nat.zero_le _
      | some w => exact Nat.zero_le _
    · have := clN_k h6 [w] h1
      rw [List.map_cons, List.sum_cons] at this
      have e0 : cnS [w] ≤ 1 := by
        show (if 5 ≤ w.1.1 then 1 else 0) + 0 ≤ 1
        split <;> omega
      omega
  by_cases h1 : e.1 ≤ 1
  · have e0 : clN [e, e2] v = (match pckS e v with | none => 0 | some w => clN [e2] w) := if_pos h1
    rw [e0]
    cases pckS e v with
    | none => exact Nat.zero_le _
    | some w =>
      have := one w
      show 3 * clN [e2] w ≤ _
      omega
  · have e0 : clN [e, e2] v = if fitP e v.1 = true then (if e.1 = 6 then 5 else 1) + ((selS e v.2).map (clN [e2])).sum else 0 := if_neg h1
    rw [e0]
    by_cases hf : fitP e v.1 = true
    · rw [if_pos hf]
      have hg := vl_ge (fit_5 hf)
      have hs := selS_lw he v.2
      have hk : 3 * ((selS e v.2).map (clN [e2])).sum ≤ lw (selS e v.2) := by
        by_cases h2 : e2.1 ≤ 1
        · have z : ∀ L : List vT, (L.map (clN [e2])).sum = 0 := by
            intro L
            induction L with
            | nil => rfl
            | cons a L ih =>
              rw [List.map_cons, List.sum_cons, ih]
              unfold clN
              rw [if_pos h2]
              cases pckS e2 a with
              | none => rfl
              | some w => rfl
          rw [z]
          exact Nat.zero_le _
        · have a := clN_k h6 (selS e v.2) h2
          have b := cnS_lw (selS e v.2)
          omega
      have h5 : (if e.1 = 6 then 5 else 1 : Nat) ≤ 5 := by
        split <;> omega
      omega
    · rw [if_neg hf]
      exact Nat.zero_le _
/-- a part of a stage -/
theorem clN_m {e : sE} {v : vT} (he : eok1 e) (hv : cnV v) : ∀ l : List sE, (∀ e ∈ l, eok1 e ∧ ¬ e.1 = 6) → 6 * clN (e :: l) v ≤ (l.length + 1) * (vl v + 1) + 30
  | [], _ => by
    have := clN_1 (e := e) (v := v)
    omega
  | [e2], hl => by
    have := clN_2 (v := v) he (hl e2 List.mem_cons_self).2
    show 6 * clN [e, e2] v ≤ (1 + 1) * (vl v + 1) + 30
    omega
  | e2 :: e3 :: l, hl => by
    have a := clN_p (v := v) he hl
    have b := lsn_vl hv
    have c : 3 * (vl v + 1) ≤ ((e2 :: e3 :: l).length + 1) * (vl v + 1) := Nat.mul_le_mul_right _ (by show 3 ≤ l.length + 1 + 1 + 1; omega)
    omega
