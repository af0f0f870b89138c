/-! ===== tables in two levels, and what is checked of a method's instructions ===== -/
def jw_at {α : Type} (l : List (List α)) (n : Nat) : Option α := match l[n / 16]? with
  | some r => r[n % 16]?
  | none => none
theorem jw_at_mem {α : Type} {l : List (List α)} {n : Nat} {x : α} (h : jw_at l n = some x) : n / 16 < l.length ∧ ∃ r ∈ l, x ∈ r := by
  unfold jw_at at h
  split at h
  · rename_i r hr
    exact ⟨(List.getElem?_eq_some_iff.mp hr).1, r, List.mem_of_getElem? hr, List.mem_of_getElem? h⟩
  · cases h
def jw_cd (c : List (List (Option Instr))) (pc : Nat) : Option Instr := match jw_at c pc with
  | some x => x
  | none => none
def jw_chk (b : ByteArray) (c : List (List (Option Instr))) : Bool := (List.range (16 * c.length)).all fun pc => match jw_cd c pc with
  | none => true
  | some i => match decode b pc with
    | .ok (j, len) => decide (i = j) && (jx_isSwitch i || decide (len = jx_len i))
    | .error _ => false
theorem jw_chk_ok {b : ByteArray} {c : List (List (Option Instr))} (h : jw_chk b c = true) : ∀ (pc : Nat) (i : Instr), jw_cd c pc = some i → ∃ len, decode b pc = .ok (i, len) ∧ (jx_isSwitch i = false → len = jx_len i) := by
  intro pc i hi
  have hlt : pc < 16 * c.length := by
    unfold jw_cd at hi
    split at hi
    · rename_i x hx
      have := (jw_at_mem hx).1
      omega
    · cases hi
  have h1 := List.all_eq_true.mp h pc (List.mem_range.mpr hlt)
  rw [hi] at h1
  dsimp only at h1
  split at h1
  · rename_i j len hd
    obtain ⟨h2, h3⟩ := (Bool.and_eq_true _ _).mp h1
    obtain rfl := of_decide_eq_true h2
    refine ⟨len, hd, fun hs => ?_⟩
    rw [hs] at h3
    exact of_decide_eq_true (by simpa using h3)
  · cases h1
