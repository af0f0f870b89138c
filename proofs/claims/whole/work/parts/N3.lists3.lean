/-! ===== room: the lists of a stage ===== -/
def paF (acc : List sE) : Prop := (∀ e ∈ acc, eok1 e) ∧ ∀ e ∈ acc.tail, ¬ e.1 = 6
def xOK (W : Nat) (x : Option vT) : Prop := ∀ v, x = some v → cnV v ∧ vl v ≤ W
theorem clO_m {W : Nat} {acc : List sE} {x : Option vT} (ha : paF acc) (hx : xOK W x) : 6 * clO acc x ≤ acc.length * (W + 31) := by
  cases x with
  | none => exact Nat.zero_le _
  | some v =>
    obtain ⟨h1, h2⟩ := hx v rfl
    cases acc with
    | nil => exact Nat.zero_le _
    | cons e r =>
      have a := clN_m (v := v) (ha.1 e List.mem_cons_self) h1 r (fun e' h' => ⟨ha.1 e' (List.mem_cons_of_mem _ h'), ha.2 e' h'⟩)
      have b : (r.length + 1) * (vl v + 1) ≤ (r.length + 1) * (W + 1) := Nat.mul_le_mul_left _ (by omega)
      have c : (r.length + 1) * (W + 31) = (r.length + 1) * (W + 1) + (r.length + 1) * 30 := by rw [← Nat.mul_add]
      show 6 * clN (e :: r) v ≤ (r.length + 1) * (W + 31)
      omega
theorem xOK_b {W : Nat} {acc : List sE} {x : Option vT} (ha : ∀ e ∈ acc, eok1 e) (hx : xOK W x) : xOK W (x.bind (evS acc)) := fun w h => by
  cases x with
  | none => cases h
  | some v =>
    obtain ⟨h1, h2⟩ := hx v rfl
    obtain ⟨q1, q2, q3⟩ := evS_I acc v w ha h1 h
    exact ⟨q1, by omega⟩
theorem clT_m {W : Nat} : ∀ (l acc : List sE) (x : Option vT), (∀ e ∈ l, eok1 e) → paF acc → xOK W x → 6 * clT x acc l ≤ (acc.length + l.length) * (W + 31)
  | [], acc, x, _, ha, hx => clO_m ha hx
  | e :: l, acc, x, hl, ha, hx => by
    have he := hl e List.mem_cons_self
    have hl2 : ∀ e ∈ l, eok1 e := fun y hy => hl y (List.mem_cons_of_mem _ hy)
    by_cases h6 : e.1 = 6
    · have e1 : clT x acc (e :: l) = clO acc x + clT (x.bind (evS acc)) [e] l := if_pos h6
      have a := clO_m ha hx
      have b := clT_m l [e] (x.bind (evS acc)) hl2 ⟨fun e' h' => by rw [List.mem_singleton.mp h']; exact he, fun e' h' => absurd h' List.not_mem_nil⟩ (xOK_b ha.1 hx)
      have c : (acc.length + (l.length + 1)) * (W + 31) = acc.length * (W + 31) + (1 + l.length) * (W + 31) := by rw [← Nat.add_mul, Nat.add_comm l.length 1]
      have b : 6 * clT (x.bind (evS acc)) [e] l ≤ (1 + l.length) * (W + 31) := b
      rw [e1]
      show _ ≤ (acc.length + (l.length + 1)) * (W + 31)
      omega
    · have e1 : clT x acc (e :: l) = clT x (acc ++ [e]) l := if_neg h6
      have b := clT_m l (acc ++ [e]) x hl2 ⟨fun e' h' => by
        rcases List.mem_append.mp h' with z | z
        · exact ha.1 e' z
        · rw [List.mem_singleton.mp z]
          exact he, fun e' h' => by
        cases acc with
        | nil => exact absurd h' List.not_mem_nil
        | cons a r =>
          rcases List.mem_append.mp (show e' ∈ r ++ [e] from h') with z | z
          · exact ha.2 e' z
          · rw [List.mem_singleton.mp z]
            exact h6⟩ hx
      rw [e1]
      rw [List.length_append] at b
      have b : 6 * clT x (acc ++ [e]) l ≤ (acc.length + 1 + l.length) * (W + 31) := b
      show _ ≤ (acc.length + (l.length + 1)) * (W + 31)
      rw [show acc.length + (l.length + 1) = acc.length + 1 + l.length by omega]
      exact b
