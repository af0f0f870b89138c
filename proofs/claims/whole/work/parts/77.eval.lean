/-! ===== runs that the kernel evaluates ===== -/
noncomputable def jw_ev (mc : Nat) (as : List Value) (h : jx_H) : Option jx_R := match jw_M mc with
  | some E => if (lg_sl as).length ≤ E.2.1 ∧ mc < 1000 then jx_ex jw_C1 jw_M 4000 100 mc (0, jx_in0 E.2.1 as, [], h) else none
  | none => none
def jw_val (x : Option jx_R) : Option Int32 := match x with
  | some (_, .inl (some (.int k))) => some k
  | _ => none
theorem jw_val_ok {x : Option jx_R} {k : Int32} (h : jw_val x = some k) : x = some (jw_heap x, .inl (some (.int k))) := by
  unfold jw_val at h
  split at h
  · cases h
    rfl
  · cases h
theorem jw_ev_su {L : Nat} {xs : Nat → Int32} {mc : Nat} {as : List Value} {h : jx_H} {k : Int32} (e : jw_val (jw_ev mc as h) = some k) : jw_su L xs mc as h (jw_heap (jw_ev mc as h), .inl (some (.int k))) := by
  have e1 := jw_val_ok e
  generalize jw_heap (jw_ev mc as h) = h2 at e1 ⊢
  unfold jw_ev at e1
  split at e1
  · rename_i E hM
    split at e1
    · rename_i hc
      exact jw_suR hM hc.1 hc.2 (d := 100) (by decide) ⟨4000, e1⟩
    · cases e1
  · cases e1
def jw_fits (h : jx_H) : Bool := decide (h.length ≤ 500000) && decide (jx_vol jw_C1 h ≤ 5000000)
theorem jw_nsT {w : Nat → Bool} {L : Nat} {xs : Nat → Int32} : jx_ns (jw_T w L xs) = jw_ns := rfl
theorem jw_nsC {w : Nat → Bool} : jx_ns (jw_TC w) = jw_ns := rfl
theorem jw_oclT {w : Nat → Bool} {L : Nat} {xs : Nat → Int32} : jx_ocl (jw_T w L xs) = jw_ocl := rfl
theorem jw_oclC {w : Nat → Bool} : jx_ocl (jw_TC w) = jw_ocl := rfl
theorem jw_volC {L : Nat} {xs : Nat → Int32} (h : jx_H) : jx_vol (jw_TT L xs) h = jx_vol jw_C1 h := by
  have e : jx_sz (jw_TT L xs) = jx_sz jw_C1 := by
    funext c
    cases c with
    | inl x => simp only [jx_sz]
    | inr x => simp only [jx_sz, jw_nsT, jw_nsC]
  unfold jx_vol
  rw [e]
noncomputable def jw_chkP (cm mm : Nat) (as ms : List Value) (h : jx_H) : Bool := (jw_val (jw_ev cm as h)).isSome && (decide (jw_val (jw_ev mm ms (jw_heap (jw_ev cm as h))) = jw_val (jw_ev cm as h)) && (decide (jx_cls jw_C1 h 0 = some 0) && (decide (jx_cls jw_C1 (jw_heap (jw_ev cm as h)) 15 = some 16) && jw_fits (jw_heap (jw_ev mm ms (jw_heap (jw_ev cm as h)))))))
theorem jw_clsC {L : Nat} {xs : Nat → Int32} (h : jx_H) (a : Nat) : jx_cls (jw_TT L xs) h a = jx_cls jw_C1 h a := by
  unfold jx_cls
  rw [jw_oclT, jw_oclC]
theorem jw_chkP_ok {L : Nat} {xs : Nat → Int32} {cm mm : Nat} {as ms : List Value} {h : jx_H} (e : jw_chkP cm mm as ms h = true) : ∃ (h1 h2 : jx_H) (k : Int32), jx_cls (jw_TT L xs) h 0 = some 0 ∧ jw_su L xs cm as h (h1, .inl (some (.int k))) ∧ jx_cls (jw_TT L xs) h1 15 = some 16 ∧ jw_su L xs mm ms h1 (h2, .inl (some (.int k))) ∧ jw_fits h2 = true := by
  unfold jw_chkP at e
  obtain ⟨e1, e2⟩ := (Bool.and_eq_true _ _).mp e
  obtain ⟨e2, e3⟩ := (Bool.and_eq_true _ _).mp e2
  obtain ⟨e3, e4⟩ := (Bool.and_eq_true _ _).mp e3
  obtain ⟨e4, e5⟩ := (Bool.and_eq_true _ _).mp e4
  obtain ⟨k, hk⟩ := Option.isSome_iff_exists.mp e1
  have e2 := of_decide_eq_true e2
  rw [hk] at e2
  exact ⟨_, _, k, (jw_clsC h 0).trans (of_decide_eq_true e3), jw_ev_su hk, (jw_clsC _ 15).trans (of_decide_eq_true e4), jw_ev_su e2, e5⟩
noncomputable def jw_hC : jx_H := jw_hB ++ [.inl (1, 1, fun _ => .long 0)]
set_option maxRecDepth 100000 in
theorem jw_hB_49 : jw_hB.length = 49 := by decide +kernel
set_option maxRecDepth 100000 in
theorem jw_p_load : jw_chkP 56 211 [.ref 0] [.ref 15] jw_hC = true := by decide +kernel
set_option maxRecDepth 100000 in
theorem jw_p_keep : jw_chkP 106 273 [.ref 0] [.ref 15] jw_hC = true := by decide +kernel
set_option maxRecDepth 100000 in
theorem jw_p_result : (jw_chkP 107 274 [.ref 0, .int 0] [.ref 15, .int 0] jw_hC && jw_chkP 107 274 [.ref 0, .int 1] [.ref 15, .int 1] jw_hC && jw_chkP 107 274 [.ref 0, .int 2] [.ref 15, .int 2] jw_hC && jw_chkP 107 274 [.ref 0, .int 3] [.ref 15, .int 3] jw_hC) = true := by decide +kernel
set_option maxRecDepth 100000 in
theorem jw_p_about : (jw_chkP 112 281 [.ref 0, .int 0] [.ref 15, .int 0] jw_hC && jw_chkP 112 281 [.ref 0, .int 1] [.ref 15, .int 1] jw_hC && jw_chkP 112 281 [.ref 0, .int 2] [.ref 15, .int 2] jw_hC && jw_chkP 112 281 [.ref 0, .int 3] [.ref 15, .int 3] jw_hC) = true := by decide +kernel
