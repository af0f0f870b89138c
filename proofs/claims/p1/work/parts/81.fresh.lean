/-! ===== one call on a fresh object ===== -/
section JQ
variable {T : jx_T} {own pc : Nat} {rt : Option FieldType × Bool} {cd : Nat → Option Instr} {lo : jx_L} {st : List Value} {h : jx_H}
theorem jr_if {q : Jvm.ClassFile.Cond} {off : Int} {t : Nat} {x : Int32} {b : Bool} (e : jx_hold q x 0 = b) (h0 : 0 ≤ (pc : Int) + off) (ht : (bif b then jx_to pc off else some (pc + 3)) = some t) : jx_do T cd own pc rt (.ifCond q off) lo (.int x :: st) h = some (.inl (t, lo, st, h)) := by
  simp only [jx_do, e, jx_br, if_pos h0]
  cases b
  · cases ht
    rfl
  · simp only [jx_go]
    rw [show jx_to pc off = some t from ht]
theorem jr_tsD {d lw hi : Int} {offs : Array Int} {x : Int32} {t : Nat} (hx : x.toInt < lw ∨ hi < x.toInt) (e : jx_to pc d = some t) : jx_do T cd own pc rt (.tableswitch d lw hi offs) lo (.int x :: st) h = some (.inl (t, lo, st, h)) := by
  simp only [jx_do, if_pos hx, jx_go, e]
theorem jr_cv {k n a ci m2 : Nat} {l : List (Nat × Nat)} {bs r : List Value} (hT : jx_cv T own k = jw_cv own k) (hcv : jw_find jw_cvT own k = some (n, l)) (hg : jw_ls l ci = some m2) (hc : jx_cls T h a = some ci) (hn : bs.length = n) (hst : st = bs.reverse ++ .ref a :: r) (hw : jx_wt r = true) : jx_do T cd own pc rt (.invokevirtual k) lo st h = some (.inr (.inl (m2, .ref a :: bs, r))) := by
  have e1 : jx_cv T own k = some (n, jw_ls l) := by
    rw [hT]
    unfold jw_cv
    rw [hcv]
  have e2 : jx_args n st = some (bs, .ref a :: r) := by
    subst hn
    subst hst
    unfold jx_args
    rw [if_pos (by simp)]
    rw [← List.length_reverse, List.take_left, List.drop_left, List.reverse_reverse]
  simp only [jx_do, e1, e2, hc, hg, hw]
  rfl
end JQ
def jw_fi (h : jx_H) (a ci f : Nat) : Option Value := match h[a]? with
  | some (.inr (c, fs)) => if c = ci then fs[f]? else none
  | _ => none
theorem jw_fi_ok {h : jx_H} {a ci f : Nat} {v : Value} (e : jw_fi h a ci f = some v) : ∃ fs, h[a]? = some (.inr (ci, fs)) ∧ fs[f]? = some v := by
  unfold jw_fi at e
  split at e
  · rename_i c fs hc
    split at e
    · rename_i hci
      subst hci
      exact ⟨fs, hc, e⟩
    · cases e
  · cases e
theorem jw_shR {L : Nat} {xs : Nat → Int32} {mc d : Nat} {E : jx_M} {as : List Value} {h h2 : jx_H} {v : Option Value} (hM : jw_M mc = some E) (hl : (lg_sl as).length ≤ E.2.1) (hc : mc < 1000) (hd : d ≤ 800) (hr : jx_r jw_C1 jw_M d mc (0, jx_in0 E.2.1 as, [], h) (h2, .inl v)) : jw_sh L xs mc as h (h2, .inl v) := by
  obtain ⟨f, hr⟩ := hr
  obtain ⟨own, n2, rt, cd, hd9⟩ := E
  exact ⟨f + 0, d + 0, own, n2, rt, cd, hd9, hM, hl, hc, hd, Or.inl ⟨v, rfl, jx_ex_mono (jw_le (fun _ h => h)) 0 f 0 d mc _ _ hr⟩⟩
theorem jw_shX {L : Nat} {xs : Nat → Int32} {mc d ci : Nat} {E : jx_M} {as : List Value} {h : jx_H} (hM : jw_M mc = some E) (hl : (lg_sl as).length ≤ E.2.1) (hc : mc < 1000) (hd : d ≤ 800) (hb : h.length < jx_big) (hns : jw_ns ci = 6) (hr : jx_r (jw_TC (fun _ => false)) jw_M d mc (0, jx_in0 E.2.1 as, [], h) (h ++ [.inr (ci, [])], .inr h.length)) : jw_sh L xs mc as h (h ++ [.inr (ci, [])], .inr h.length) := by
  obtain ⟨f, hr⟩ := hr
  obtain ⟨own, n2, rt, cd, hd9⟩ := E
  exact ⟨f + 0, d + 0, own, n2, rt, cd, hd9, hM, hl, hc, hd, Or.inr ⟨ci, rfl, hns, hns, rfl, hb, jx_ex_mono (jw_le (fun _ h => h)) 0 f 0 d mc _ _ hr⟩⟩
theorem jw_suB {L : Nat} {xs : Nat → Int32} {mc d : Nat} {E : jx_M} {as : List Value} {h h2 : jx_H} {v : Option Value} (hM : jw_M mc = some E) (hl : (lg_sl as).length ≤ E.2.1) (hc : mc < 1000) (hd : d ≤ 800) (hr : jx_r (jw_TB (jw_bt L xs) (fun _ => true)) jw_M d mc (0, jx_in0 E.2.1 as, [], h) (h2, .inl v)) : jw_su L xs mc as h (h2, .inl v) := by
  obtain ⟨f, hr⟩ := hr
  obtain ⟨own, n2, rt, cd, hd9⟩ := E
  exact ⟨v, rfl, Or.inl ⟨f + 0, d + 0, own, n2, rt, cd, hd9, hM, hl, hc, hd, Or.inl ⟨v, rfl, jx_ex_mono (jw_leB (fun _ h => h)) 0 f 0 d mc _ _ hr⟩⟩⟩
theorem jw_ev_r {mc : Nat} {as : List Value} {h : jx_H} {res : Option Value ⊕ Nat} {E : jx_M} (hM : jw_M mc = some E) (hl : (lg_sl as).length ≤ E.2.1 ∧ mc < 1000) (e : jw_ev mc as h = some (jw_heap (jw_ev mc as h), res)) : jx_r jw_C1 jw_M 100 mc (0, jx_in0 E.2.1 as, [], h) (jw_heap (jw_ev mc as h), res) := by
  refine ⟨4000, ?_⟩
  have e1 : jw_ev mc as h = jx_ex jw_C1 jw_M 4000 100 mc (0, jx_in0 E.2.1 as, [], h) := by
    unfold jw_ev
    rw [hM]
    simp only [if_pos hl]
  rw [← e1]
  exact e
theorem jw_ev_sh {L : Nat} {xs : Nat → Int32} {mc : Nat} {as : List Value} {h : jx_H} {k : Int32} (e : jw_val (jw_ev mc as h) = some k) : jw_sh L xs mc as h (jw_heap (jw_ev mc as h), .inl (some (.int k))) := by
  have e1 := jw_val_ok e
  generalize jw_heap (jw_ev mc as h) = h2 at e1 ⊢
  unfold jw_ev at e1
  split at e1
  · rename_i E hM
    split at e1
    · rename_i hc
      exact jw_shR hM hc.1 hc.2 (d := 100) (by decide) ⟨4000, e1⟩
    · cases e1
  · cases e1
/-! letter accepted, query: the helper's call, the model's, thrown -/
def jw_out1 (h : jx_H) : Option (Nat → Value) := match (h[(49 : Nat)]? : Option jx_C) with
  | some (.inl (t, n, f)) => if t = 1 ∧ n = 1 then some f else none
  | _ => none
theorem jw_out1_ok {h : jx_H} {f : Nat → Value} (e : jw_out1 h = some f) : h[49]? = some (.inl (1, 1, f)) := by
  unfold jw_out1 at e
  split at e
  · rename_i t n g hc
    split at e
    · rename_i hci
      obtain ⟨rfl, rfl⟩ := hci
      cases e
      exact hc
    · cases e
  · cases e
noncomputable def jw_hS (h : jx_H) (v : Int32) : jx_H := match jw_out1 h with
  | some f => h.set 49 (.inl (1, 1, updV f 0 (.long v.toInt64)))
  | none => []
def jw_long (h : jx_H) : Option Value := match jw_out1 h with
  | some f => some (f 0)
  | none => none
noncomputable def jw_chkK (mm : Nat) (ms : List Value) (h1 : jx_H) (v : Int32) : Bool := (jw_out1 h1).isSome && (decide (jx_cls jw_C1 (jw_hS h1 v) 15 = some 16) && (decide (jw_val (jw_ev mm ms (jw_hS h1 v)) = some v) && (decide (jx_cls jw_C1 (jw_heap (jw_ev mm ms (jw_hS h1 v))) 15 = some 16) && (decide (jw_val (jw_ev 209 [.ref 15] (jw_heap (jw_ev mm ms (jw_hS h1 v)))) = some 0) && (decide (jw_long (jw_heap (jw_ev 209 [.ref 15] (jw_heap (jw_ev mm ms (jw_hS h1 v))))) = some (.long v.toInt64)) && jw_fits (jw_heap (jw_ev 209 [.ref 15] (jw_heap (jw_ev mm ms (jw_hS h1 v))))))))))
noncomputable def jw_chkH (mh mm : Nat) (as ms : List Value) : Bool := decide (jx_cls jw_C1 jw_hC 0 = some 0) && (match jw_val (jw_ev mh as jw_hC) with
  | some v => jw_chkK mm ms (jw_heap (jw_ev mh as jw_hC)) v
  | none => false)
theorem jw_chkH_ok {L : Nat} {xs : Nat → Int32} {mh mm : Nat} {as ms : List Value} (e : jw_chkH mh mm as ms = true) : ∃ (h1 h2 h' : jx_H) (v : Int32) (f g : Nat → Value), jx_cls (jw_TT L xs) jw_hC 0 = some 0 ∧ jw_sh L xs mh as jw_hC (h1, .inl (some (.int v))) ∧ h1[49]? = some (.inl (1, 1, f)) ∧ jx_cls (jw_TT L xs) (h1.set 49 (.inl (1, 1, updV f 0 (.long v.toInt64)))) 15 = some 16 ∧ jw_su L xs mm ms (h1.set 49 (.inl (1, 1, updV f 0 (.long v.toInt64)))) (h2, .inl (some (.int v))) ∧ jx_cls (jw_TT L xs) h2 15 = some 16 ∧ jw_su L xs 209 [.ref 15] h2 (h', .inl (some (.int 0))) ∧ jx_arr (jw_TT L xs) h' 49 = some (1, 1, g) ∧ g 0 = .long v.toInt64 ∧ jw_fits h' = true := by
  unfold jw_chkH at e
  obtain ⟨e0, e⟩ := (Bool.and_eq_true _ _).mp e
  split at e
  · rename_i v hv
    unfold jw_chkK at e
    obtain ⟨e1, e⟩ := (Bool.and_eq_true _ _).mp e
    obtain ⟨e2, e⟩ := (Bool.and_eq_true _ _).mp e
    obtain ⟨e3, e⟩ := (Bool.and_eq_true _ _).mp e
    obtain ⟨e4, e⟩ := (Bool.and_eq_true _ _).mp e
    obtain ⟨e5, e⟩ := (Bool.and_eq_true _ _).mp e
    obtain ⟨e6, e7⟩ := (Bool.and_eq_true _ _).mp e
    obtain ⟨f, hf⟩ := Option.isSome_iff_exists.mp e1
    have eS : jw_hS (jw_heap (jw_ev mh as jw_hC)) v = (jw_heap (jw_ev mh as jw_hC)).set 49 (.inl (1, 1, updV f 0 (.long v.toInt64))) := by
      unfold jw_hS
      rw [hf]
    have e6 := of_decide_eq_true e6
    unfold jw_long at e6
    split at e6
    · rename_i g hg
      have ha := jw_out1_ok hg
      refine ⟨_, _, _, v, f, g, (jw_clsC _ _).trans (of_decide_eq_true e0), jw_ev_sh hv, jw_out1_ok hf, ?_, ?_, (jw_clsC _ _).trans (of_decide_eq_true e4), jw_ev_su (of_decide_eq_true e5), js_arr ha (by decide), Option.some.inj e6, e7⟩
      · rw [← eS]
        exact (jw_clsC _ _).trans (of_decide_eq_true e2)
      · rw [← eS]
        exact jw_ev_su (of_decide_eq_true e3)
    · cases e6
  · cases e
set_option maxRecDepth 100000 in
theorem jq_query : jw_chkH 122 232 [.ref 0] [.ref 15] = true := by decide +kernel
set_option maxRecDepth 100000 in
theorem jq_letters : ((List.range 95).all fun k => jw_chkH 114 210 [.ref 0, .int (Int32.ofNat (32 + k))] [.ref 15, .int (Int32.ofNat (32 + k))]) = true := by decide +kernel
theorem jq_len : jw_hC.length = 50 := by
  unfold jw_hC
  rw [List.length_append, jw_hB_49]
  rfl
set_option maxRecDepth 100000 in
theorem jq_c0 : jx_cls jw_C1 jw_hC 0 = some 0 := by decide +kernel
set_option maxRecDepth 100000 in
theorem jq_fits : jw_fits jw_hC = true := by decide +kernel
set_option maxRecDepth 100000 in
theorem jq_f0 : jw_fi jw_hC 15 16 0 = some (.int 0) ∧ jw_fi jw_hC 15 16 2 = some (.int 0) ∧ jw_fi jw_hC 15 16 15 = some (.int 0) := by decide +kernel
set_option maxRecDepth 100000 in
theorem jq_f5 : jw_fi jw_hC 0 0 5 = some (.int 0) := by decide +kernel
