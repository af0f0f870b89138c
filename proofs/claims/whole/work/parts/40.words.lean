/-! ===== the words, whatever the arguments ===== -/
theorem jw_mem (i : Nat) {w : Cond} (h : tables_1[i]? = some w) : w ∈ lw_tbl := List.mem_append_right _ (List.mem_of_getElem? h)
theorem jw_sel (i : Nat) {w : Cond} (h : (k2_sels lw_privs)[i]? = some w) : w ∈ lw_tbl := List.mem_append_left _ (List.mem_of_getElem? h)
def jw_gw (w : Cond) : Bool := goodWord w || w.onTables
def jw_H (s : State) : Prop := (∀ w ∈ lw_tbl, jw_gw w = true → jx_w w s) ∧ ∀ C : String, Cond.arrayOver (.object C) ∈ lw_tbl → jx_w (.arrayOver (.object C)) s
theorem jw_H.of {s : State} {args : Array Value} (h : ∀ w ∈ lw_tbl, w.before args s = true) : jw_H s := by
  refine ⟨fun w hw hg A => ?_, fun C hC A => va_AO.use (va_AO.of (h _ hC))⟩
  unfold jw_gw at hg
  rcases (Bool.or_eq_true _ _).mp hg with h1 | h1
  · exact word_at (State.WarmedH.refl s) (good_of_word h1) (h w hw)
  · exact va_tabs h1 rfl (h w hw)
def jw_WS : List Cond := lw_tbl.filter goodWord
theorem jw_WS_mem {w : Cond} (h : w ∈ lw_tbl) (hg : goodWord w = true) : w ∈ jw_WS := List.mem_filter.mpr ⟨h, hg⟩
theorem jw_H.ws {s : State} (h : jw_H s) : jx_ws jw_WS s := fun w hw => ⟨(List.mem_filter.mp hw).2, h.1 w (List.mem_filter.mp hw).1 (by unfold jw_gw; rw [(List.mem_filter.mp hw).2]; rfl)⟩
/-- a private method of a class above, on an object whose class selects another method of that class -/
theorem jw_selP {s : State} {C : String} {y y0 : MethodName} (hs : jx_w (.selects C y0 y0) s) (hcls : y0.cls = y.cls) (hy : y.cls ≠ "java/lang/invoke/MethodHandle" ∧ y.cls ≠ "java/lang/invoke/VarHandle") (hpriv : jx_w (.privateMethod y) s) (hinst0 : jx_w (.instanceMethod y0) s) (hinst : jx_w (.instanceMethod y) s) : jx_w (.selects C y y) s := by
  intro A
  obtain ⟨c, r0, m0, q1, q2, q3, q4, kP, hkP, hkPi⟩ := Cond.selects_spec (hs A)
  obtain ⟨mk, methM, hnamed, hmethM, -, -⟩ := Cond.instanceMethod_spec (hinst A)
  have hfound : s.methodFound? y.cls y.name y.desc = some mk := State.methodFound?_of_named hnamed hy
  have hsel : selectMethod {} s.vm c mk = .method mk := selectMethod_private hmethM (Cond.privateMethod_at (hpriv A) mk methM hnamed hmethM)
  have e1 : m0.cls = mk.cls := by
    have a1 := findClass_of_methodNamed q3
    have a2 := findClass_of_methodNamed hnamed
    rw [hcls] at a1
    exact Option.some.inj (a1.symm.trans a2)
  rw [e1] at hkP
  simp only [Cond.before, Cond.holds, Cond.value, q1, hfound, hnamed, hsel, hkP]
  simp; exact hkPi
/-! ===== tables by the method's class and the constant's number ===== -/
def jw_find {α : Type} (l : List (List (Nat × Nat × α))) (own k : Nat) : Option α := match l[own]? with
  | some r => (match r.find? (fun x => Nat.beq x.2.1 k) with
    | some x => some x.2.2
    | none => none)
  | none => none
def jw_idx {α : Type} (l : List (List (Nat × Nat × α))) : Bool := l.zipIdx.all fun q => q.1.all fun x => Nat.beq x.1 q.2
theorem jw_find_ok {α : Type} {l : List (List (Nat × Nat × α))} (hi : jw_idx l = true) {own k : Nat} {x : α} (h : jw_find l own k = some x) {P : Nat × Nat × α → Prop} (hP : ∀ r ∈ l, ∀ y ∈ r, P y) : P (own, k, x) := by
  unfold jw_find at h
  split at h
  · rename_i r hr
    split at h
    · rename_i y hy
      cases h
      have h1 := List.find?_some hy
      have h2 := List.mem_of_find?_eq_some hy
      have h3 : y.2.1 = k := Nat.eq_of_beq_eq_true h1
      have h4 : (r, own) ∈ l.zipIdx := by
        have hlt := (List.getElem?_eq_some_iff.mp hr).1
        refine List.mem_of_getElem? (i := own) ?_
        rw [List.getElem?_zipIdx, hr]
        simp
      have h5 : y.1 = own := Nat.eq_of_beq_eq_true (List.all_eq_true.mp (List.all_eq_true.mp hi (r, own) h4) y h2)
      have h6 := hP r (List.mem_of_getElem? hr) y h2
      obtain ⟨a, b, c⟩ := y
      dsimp only at h3 h5
      subst h3 h5
      exact h6
    · cases h
  · cases h
