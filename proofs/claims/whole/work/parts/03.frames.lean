/-! ===== what the abstract machine's heap and frame say of the machine's ===== -/
/-- where the run's cells begin; where the cells of before lie; the numbers of classes; the slots of fields; the numbers of array classes; how many classes the run makes objects of -/
abbrev jx_G : Type := Nat × (Nat → Nat) × (Nat → ClassId) × (Nat → Nat → Nat) × (Nat → ClassId) × Nat
def jx_mu (G : jx_G) (a : Nat) : Nat := if a < jx_big then G.1 + a else G.2.1 (a - jx_big)
def jx_v (G : jx_G) : Value → Value
  | .ref a => .ref (jx_mu G a)
  | v => v
theorem jx_v_int (G : jx_G) (x : Int32) : jx_v G (.int x) = .int x := rfl
theorem jx_v_long (G : jx_G) (x : Int64) : jx_v G (.long x) = .long x := rfl
theorem jx_v_null (G : jx_G) : jx_v G .null = .null := rfl
theorem jx_v_ref (G : jx_G) (a : Nat) : jx_v G (.ref a) = .ref (jx_mu G a) := rfl
theorem jx_v_cat (G : jx_G) (v : Value) : (jx_v G v).category = v.category := by cases v <;> rfl
theorem jx_mu_in (G : jx_G) {a : Nat} (h : a < jx_big) : jx_mu G a = G.1 + a := if_pos h
def jx_ls (G : jx_G) (nL : Nat) (ls : Array Slot) (lo : jx_L) : Prop := lo.length = nL ∧ ls.size = nL ∧ lv_wf ls ∧ ∀ (i : Nat) (v : Value), lo[i]? = some (some v) → ls[i]? = some (.val (jx_v G v))
/-- the locals that are known, as the kit's rows want them -/
def jx_pr (G : jx_G) (lo : jx_L) : List (Nat × Value) := (List.range lo.length).filterMap fun i => match lo[i]? with
  | some (some v) => some (i, jx_v G v)
  | _ => none
theorem jx_pr_mem {G : jx_G} {lo : jx_L} {q : Nat × Value} : q ∈ jx_pr G lo ↔ ∃ v, lo[q.1]? = some (some v) ∧ q.2 = jx_v G v := by
  constructor
  · intro h
    obtain ⟨i, hi, hq⟩ := List.mem_filterMap.mp h
    split at hq
    · rename_i v hv
      cases hq
      exact ⟨v, hv, rfl⟩
    · cases hq
  · rintro ⟨v, hv, h2⟩
    refine List.mem_filterMap.mpr ⟨q.1, List.mem_range.mpr ((List.getElem?_eq_some_iff.mp hv).1), ?_⟩
    rw [hv]
    show some (q.1, jx_v G v) = some q
    rw [← h2]
theorem jx_ls.has {G : jx_G} {nL : Nat} {ls : Array Slot} {lo : jx_L} (h : jx_ls G nL ls lo) : lv_has ls nL (jx_pr G lo) := by
  refine ⟨h.2.1, h.2.2.1, fun q hq => ?_⟩
  obtain ⟨v, h1, h2⟩ := jx_pr_mem.mp hq
  rw [h2]
  exact h.2.2.2 _ _ h1
theorem jx_kill_len (lo : jx_L) (i : Nat) : (jx_kill lo i).length = lo.length := by
  cases i with
  | zero => rfl
  | succ k =>
    dsimp only [jx_kill]
    split
    · split
      · simp
      · rfl
    · rfl
theorem jx_kill_get {lo : jx_L} {i j : Nat} {v : Value} (h : (jx_kill lo i)[j]? = some (some v)) : lo[j]? = some (some v) ∧ ¬ (j + 1 = i ∧ v.category = 2) := by
  cases i with
  | zero => exact ⟨h, fun q => absurd q.1 (Nat.succ_ne_zero j)⟩
  | succ k =>
    dsimp only [jx_kill] at h
    split at h
    · rename_i w hw
      split at h
      · rename_i hc
        by_cases hk : k = j
        · subst hk
          rw [List.getElem?_set_self ((List.getElem?_eq_some_iff.mp hw).1)] at h
          cases h
        · rw [List.getElem?_set_ne hk] at h
          exact ⟨h, fun q => hk (Nat.succ.inj q.1).symm⟩
      · rename_i hc
        refine ⟨h, fun q => ?_⟩
        have : k = j := (Nat.succ.inj q.1).symm
        subst this
        rw [hw] at h
        cases h
        exact hc q.2
    · rename_i hno
      refine ⟨h, fun q => ?_⟩
      have : k = j := (Nat.succ.inj q.1).symm
      subst this
      exact hno v h
theorem jx_ls.st1 {G : jx_G} {nL i : Nat} {ls' : Array Slot} {lo : jx_L} {v : Value} (hlen : lo.length = nL) (hi : i < lo.length)
    (h : lv_has ls' nL ((i, jx_v G v) :: (jx_pr G lo).filter (fun q => !(q.1 == i) && !(q.1 + 1 == i && q.2.category == 2)))) : jx_ls G nL ls' (jx_st1 lo i v) := by
  refine ⟨by rw [jx_st1, List.length_set, jx_kill_len]; exact hlen, h.1, h.2.1, fun j w hj => ?_⟩
  by_cases hji : i = j
  · subst hji
    rw [jx_st1, List.getElem?_set_self (by rw [jx_kill_len]; exact hi)] at hj
    cases hj
    exact h.2.2 (i, jx_v G v) List.mem_cons_self
  · rw [jx_st1, List.getElem?_set_ne hji] at hj
    obtain ⟨h1, h2⟩ := jx_kill_get hj
    refine h.2.2 (j, jx_v G w) (List.mem_cons_of_mem _ (List.mem_filter.mpr ⟨jx_pr_mem.mpr ⟨w, h1, rfl⟩, ?_⟩))
    have e1 : ¬ j = i := fun q => hji q.symm
    simp only [Bool.and_eq_true, Bool.not_eq_true', beq_eq_false_iff_ne, ne_eq, e1, not_false_eq_true, true_and, Bool.and_eq_false_iff, jx_v_cat]
    by_cases hq : j + 1 = i
    · exact Or.inr (fun z => h2 ⟨hq, z⟩)
    · exact Or.inl hq
theorem jx_ls.st2 {G : jx_G} {nL i : Nat} {ls' : Array Slot} {lo : jx_L} {v : Value} (hlen : lo.length = nL) (hi : i + 1 < lo.length)
    (h : lv_has ls' nL ((i, jx_v G v) :: (jx_pr G lo).filter (fun q => !(q.1 == i) && (!(q.1 == i + 1) && !(q.1 + 1 == i && q.2.category == 2))))) : jx_ls G nL ls' (jx_st2 lo i v) := by
  refine ⟨by rw [jx_st2, List.length_set, List.length_set, jx_kill_len]; exact hlen, h.1, h.2.1, fun j w hj => ?_⟩
  by_cases hj1 : i + 1 = j
  · subst hj1
    rw [jx_st2, List.getElem?_set_self (by rw [List.length_set, jx_kill_len]; exact hi)] at hj
    cases hj
  · rw [jx_st2, List.getElem?_set_ne hj1] at hj
    by_cases hji : i = j
    · subst hji
      rw [List.getElem?_set_self (by rw [jx_kill_len]; omega)] at hj
      cases hj
      exact h.2.2 (i, jx_v G v) List.mem_cons_self
    · rw [List.getElem?_set_ne hji] at hj
      obtain ⟨h1, h2⟩ := jx_kill_get hj
      refine h.2.2 (j, jx_v G w) (List.mem_cons_of_mem _ (List.mem_filter.mpr ⟨jx_pr_mem.mpr ⟨w, h1, rfl⟩, ?_⟩))
      have e1 : ¬ j = i := fun q => hji q.symm
      have e2 : ¬ j = i + 1 := fun q => hj1 q.symm
      simp only [Bool.and_eq_true, Bool.not_eq_true', beq_eq_false_iff_ne, ne_eq, e1, e2, not_false_eq_true, true_and, Bool.and_eq_false_iff, jx_v_cat]
      by_cases hq : j + 1 = i
      · exact Or.inr (fun z => h2 ⟨hq, z⟩)
      · exact Or.inl hq
theorem jx_in0_ls (G : jx_G) {n : Nat} (vs : List Value) (h : (lg_sl vs).length ≤ n) : jx_ls G n ((lg_sl (vs.map (jx_v G)) ++ List.replicate (n - (lg_sl (vs.map (jx_v G))).length) Slot.unset).toArray) (jx_in0 n vs) := by
  have key : ∀ us : List Value, lg_sl (us.map (jx_v G)) = (lg_sl us).map (fun z => match z with
      | .val v => .val (jx_v G v)
      | z => z) := by
    intro us
    induction us with
    | nil => rfl
    | cons u us ih =>
      simp only [lg_sl, List.map_cons, List.flatMap_cons, jx_v_cat] at ih ⊢
      rw [ih, List.map_append]
      split <;> rfl
  have hlen : (lg_sl (vs.map (jx_v G))).length = (lg_sl vs).length := by rw [key, List.length_map]
  have hE := lv_entry (vs.map (jx_v G)) (n := n) (by rw [hlen]; exact h)
  refine ⟨?_, hE.1, hE.2.1, fun i v hi => ?_⟩
  · simp only [jx_in0, jx_lo, List.length_map, List.length_append, List.length_replicate]
    omega
  · simp only [jx_in0, jx_lo, List.getElem?_map, Option.map_eq_some_iff] at hi
    obtain ⟨z, hz, hv⟩ := hi
    cases z with
    | unset => cases hv
    | second => cases hv
    | val w =>
      cases hv
      rw [List.getElem?_toArray, key, List.length_map]
      by_cases hl : i < (lg_sl vs).length
      · rw [List.getElem?_append_left hl] at hz
        rw [List.getElem?_append_left (by rw [List.length_map]; exact hl), List.getElem?_map, hz]
        rfl
      · rw [List.getElem?_append_right (by omega)] at hz
        have := List.eq_of_mem_replicate (List.mem_of_getElem? hz)
        cases this
