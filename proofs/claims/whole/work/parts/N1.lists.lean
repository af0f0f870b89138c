/-! ===== room: how many lists the steps make ===== -/
def lsF : FT → Nat
  | .leaf => 0
  | .inner _ i _ c n => (if 5 ≤ i.1 then 1 else 0) + lsF c + lsF n
/-- the lists and objects in a value, itself too -/
def lsn (v : vT) : Nat := (if 5 ≤ v.1.1 then 1 else 0) + lsF v.2
def lnS (l : List vT) : Nat := (l.map lsn).sum
theorem lnS_nil : lnS [] = 0 := rfl
theorem lnS_cons (v : vT) (l : List vT) : lnS (v :: l) = lsn v + lnS l := by
  unfold lnS
  rw [List.map_cons, List.sum_cons]
theorem lnS_app (a b : List vT) : lnS (a ++ b) = lnS a + lnS b := by
  unfold lnS
  rw [List.map_append, List.sum_append]
theorem lnS_sib : ∀ F : FT, lnS (sib F) = lsF F
  | .leaf => rfl
  | .inner _ i _ c n => by
    show lnS ((i, c) :: sib n) = (if 5 ≤ i.1 then 1 else 0) + lsF c + lsF n
    rw [lnS_cons, lnS_sib n]
    rfl
theorem lnS_sub {a b : List vT} (h : a.Sublist b) : lnS a ≤ lnS b := by
  induction h with
  | slnil => exact Nat.le_refl _
  | cons v _ ih => rw [lnS_cons]; omega
  | cons_cons v _ ih => rw [lnS_cons, lnS_cons]; omega
theorem lnS_rev (a : List vT) : lnS a.reverse = lnS a := by
  induction a with
  | nil => rfl
  | cons v a ih =>
    rw [List.reverse_cons, lnS_app, ih, lnS_cons, lnS_cons, lnS_nil]
    omega
theorem lnS_mem {v : vT} : ∀ l : List vT, v ∈ l → lsn v ≤ lnS l
  | [], h => absurd h List.not_mem_nil
  | a :: l, h => by
    rw [lnS_cons]
    rcases List.mem_cons.mp h with rfl | h
    · omega
    · have := lnS_mem l h
      omega
theorem slS_l {p : Int × Int × Int × Int} (hp : ¬ slC p = 0) (F : FT) : lnS (slS p F) ≤ lsF F := by
  have ha := slA_r p (n := fsz F) (by omega)
  have hb := slB_r p (n := fsz F) (by omega)
  unfold slLo slHi at ha hb
  unfold slS
  rw [← lnS_sib F]
  by_cases hc : 0 < slC p
  · rw [if_pos hc] at ha hb
    exact lnS_sub ((slI_up hc (sib F) _ _ ha.1).trans (List.drop_sublist _ _))
  · rw [if_neg hc] at ha hb
    rw [← lnS_rev]
    exact lnS_sub ((slI_dn (by omega) hb.1 (sib F) _ _ ha.1).trans (List.take_sublist _ _))
theorem flat_l : ∀ l : List vT, lnS (l.flatMap fun v => if v.1.1 = 5 then sib v.2 else [v]) ≤ lnS l
  | [] => Nat.le_refl 0
  | v :: l => by
    have ih := flat_l l
    rw [List.flatMap_cons, lnS_app, lnS_cons]
    split
    · rw [lnS_sib]
      have : lsF v.2 ≤ lsn v := Nat.le_add_left _ _
      omega
    · rw [lnS_cons, lnS_nil]
      omega
theorem selS_l {e : sE} (he : eok1 e) (F : FT) : lnS (selS e F) ≤ lsF F := by
  unfold selS
  split
  · rw [← lnS_sib F]
    exact lnS_sub List.filter_sublist
  · split
    next h5 => exact slS_l (he.2.2 h5) F
    · split
      · rw [← lnS_sib F]
        exact flat_l _
      · rw [lnS_sib]
        exact Nat.le_refl _
theorem pck_l {e : sE} {v w : vT} (h : pckS e v = some w) : lsn w ≤ lsn v := by
  have hm : w ∈ sib v.2 := by
    unfold pckS at h
    split at h
    · unfold vget at h
      split at h
      · exact fget_mem _ _ h
      · cases h
    · unfold idxS at h
      split at h
      · exact List.mem_of_getElem? h
      · cases h
  have a := lnS_mem _ hm
  rw [lnS_sib] at a
  have : lsF v.2 ≤ lsn v := Nat.le_add_left _ _
  omega
theorem clN_s {l : List sE} (hl : ∀ v : vT, clN l v ≤ lsn v) : ∀ L : List vT, (L.map (clN l)).sum ≤ lnS L
  | [] => Nat.le_refl 0
  | v :: L => by
    rw [List.map_cons, List.sum_cons, lnS_cons]
    have := hl v
    have := clN_s hl L
    omega
theorem fit_5 {e : sE} {i : tI} (h : fitP e i = true) : 5 ≤ i.1 := by
  have h : i.1 = if e.1 = 3 then 6 else 5 := of_decide_eq_true h
  rw [h]
  split <;> omega
theorem clN_l : ∀ (l : List sE) (v : vT), (∀ e ∈ l, eok1 e ∧ ¬ e.1 = 6) → clN l v ≤ lsn v
  | [], v, _ => Nat.zero_le _
  | e :: l, v, h => by
    have he := h e List.mem_cons_self
    have ih := fun w => clN_l l w (fun e' h' => h e' (List.mem_cons_of_mem _ h'))
    unfold clN
    by_cases h1 : e.1 ≤ 1
    · rw [if_pos h1]
      cases hp : pckS e v with
      | none => exact Nat.zero_le _
      | some w => exact Nat.le_trans (ih w) (pck_l hp)
    · rw [if_neg h1]
      by_cases hf : fitP e v.1 = true
      · rw [if_pos hf, if_neg he.2]
        have a := clN_s ih (selS e v.2)
        have b := selS_l he.1 v.2
        have c : lsn v = 1 + lsF v.2 := by
          unfold lsn
          rw [if_pos (fit_5 hf)]
        omega
      · rw [if_neg hf]
        exact Nat.zero_le _
/-- a part of a stage: its first step alone may flatten -/
theorem clN_p {e : sE} {l : List sE} {v : vT} (he : eok1 e) (h : ∀ e ∈ l, eok1 e ∧ ¬ e.1 = 6) : clN (e :: l) v ≤ lsn v + 4 := by
  by_cases h6 : e.1 = 6
  · unfold clN
    rw [if_neg (by omega)]
    by_cases hf : fitP e v.1 = true
    · rw [if_pos hf, if_pos h6]
      have a := clN_s (fun w => clN_l l w h) (selS e v.2)
      have b := selS_l he v.2
      have c : lsn v = 1 + lsF v.2 := by
        unfold lsn
        rw [if_pos (fit_5 hf)]
      omega
    · rw [if_neg hf]
      exact Nat.zero_le _
  · have := clN_l (e :: l) v (fun e' h' => by
      rcases List.mem_cons.mp h' with rfl | z
      · exact ⟨he, h6⟩
      · exact h e' z)
    omega
/-- a part of one step makes one list, or the five of a flattened one -/
theorem clN_1 {e : sE} {v : vT} : clN [e] v ≤ 5 := by
  unfold clN
  by_cases h1 : e.1 ≤ 1
  · rw [if_pos h1]
    cases pckS e v with
    | none => exact Nat.zero_le _
    | some w => exact Nat.zero_le _
  · rw [if_neg h1]
    have z : ∀ L : List vT, (L.map (clN [])).sum = 0 := by
      intro L
      induction L with
      | nil => rfl
      | cons a L ih =>
        rw [List.map_cons, List.sum_cons, ih]
        rfl
    by_cases hf : fitP e v.1 = true
    · rw [if_pos hf, z]
      split <;> omega
    · rw [if_neg hf]
      exact Nat.zero_le _
