/-! ===== the contract of a method that catches ===== -/
theorem jx_xcall_none (i : Instr) (st : List Value) : jx_xcall (fun _ => none) i st = none := by
  cases i <;> rfl
/-- what stays the same from the law's entry on -/
def jx_cx (T T0 : jx_T) (cl : List vw_C) (ow : Nat → String) (G : jx_G) (s0 : State) (M : Nat → Option jx_M) (N : Nat → MethodName × ByteArray) (WS : List Cond) (l : Launch) : Prop := jx_mok M N WS ow ∧ G.1 = s0.heap.size ∧ (∀ a, jx_wr T0 a = false) ∧ jx_xt G s0.heap s0 ∧ jx_xok T0 cl ow G s0 ∧ l.stackTraces = false
/-- what holds at every state on the way -/
def jx_en2 (T T0 : jx_T) (cl : List vw_C) (ow : Nat → String) (G : jx_G) (s0 : State) (N : Nat → MethodName × ByteArray) (WS : List Cond) (own : Nat) (U : State) : Prop := jx_env T cl ow G s0.heap N WS U ∧ jx_env T0 cl ow G s0.heap N WS U ∧ s0.WarmedH U.vm ∧ jx_plV T cl ow N own U
theorem jx_en2.warm {T T0 : jx_T} {cl : List vw_C} {ow : Nat → String} {G : jx_G} {s0 : State} {N : Nat → MethodName × ByteArray} {WS : List Cond} {own : Nat} {s U : State} (hW : s.WarmedH U.vm) (h : jx_en2 T T0 cl ow G s0 N WS own s) : jx_en2 T T0 cl ow G s0 N WS own U := ⟨h.1.warm hW, h.2.1.warm hW, State.WarmedH.trans h.2.2.1 hW, h.2.2.2.warm hW⟩
def jx_P2 (T T0 : jx_T) (cl : List vw_C) (ow : Nat → String) (G : jx_G) (s0 : State) (N : Nat → MethodName × ByteArray) (WS : List Cond) (own : Nat) (vs : List Value) (h : jx_H) : Array Value → State → Prop := fun a U => a = (vs.map (jx_v G)).toArray ∧ jx_rep G cl s0.heap h U.heap ∧ jx_en2 T T0 cl ow G s0 N WS own U
theorem jx_P2.blind {T T0 : jx_T} {cl : List vw_C} {ow : Nat → String} {G : jx_G} {s0 : State} {N : Nat → MethodName × ByteArray} {WS : List Cond} {own : Nat} {vs : List Value} {h : jx_H} : FrameBlind (jx_P2 T T0 cl ow G s0 N WS own vs h) := by
  intro a U g mk hP
  exact ⟨hP.1, hP.2.1, hP.2.2.warm (State.WarmedH.refl U)⟩
section JXHM
variable {T T0 : jx_T} {cl : List vw_C} {ow : Nat → String} {G : jx_G} {s0 : State} {M : Nat → Option jx_M} {N : Nat → MethodName × ByteArray} {WS : List Cond} {l : Launch}
theorem jx_metH (cx : jx_cx T T0 cl ow G s0 M N WS l) {own nL D f : Nat} {rt : Option FieldType × Bool} {cd : Nat → Option Instr} {y : MethodName} {bytes : ByteArray} {hh : List (Nat × Nat × Nat × Nat)} (hy : plainName y.cls = true) (hyo : y.cls = ow own) (hrt : rt.2 = false)
    (hcd : ∀ (pc : Nat) (i : Instr), cd pc = some i → ∃ len, decode bytes pc = .ok (i, len) ∧ (jx_isSwitch i = false → len = jx_len i)) (hns : ∀ (pc : Nat) (i : Instr), cd pc = some i → jx_noSS i = true) {as : List Value} {h h2 : jx_H} {v2 : Option Value} (hlen : (lg_sl as).length ≤ nL)
    (hrun : jx_u T (own, nL, rt, cd, fun pc ci => jx_hdl T own pc ci hh) (fun _ => none) (jx_suH T T0 M D) (fun hf v => hf = h2 ∧ v = v2) f (0, jx_in0 nL as, [], h)) :
    Met l y (.codeWith y bytes nL rt.1 hh :: WS) (jx_rm (D + 1) (h2.length - h.length) (jx_vol T h2 - jx_vol T h)) (jx_P2 T T0 cl ow G s0 N WS own as h) (jx_Q G cl s0.heap h2 v2) (h2.length - h.length) (jx_vol T h2 - jx_vol T h) (jx_fre T G) := by
  obtain ⟨hm, hG, hwr, hx, hxo, hl9⟩ := cx
  refine va_MetW (cc := bytes) (maxL := nL) (ret := rt.1) (hh := hh) hy rfl ?_
  intro p e s m args below meth c s₁ B hml hv
  obtain ⟨rfl, hrep, henv, henv0, hW0, hpv⟩ := hv
  have hown : s.vm.findClass (ow own) = some m.cls := by rw [← hyo]; exact findClass_of_methodNamed B.named
  have htb : c.exceptionTable.toList.map (fun h => (h.startPc, h.endPc, h.handlerPc, h.catchType)) = hh := by
    obtain ⟨m9, meth9, c9, b1, b2, b3, -, -, b6, -⟩ := Cond.codeWith_spec (atoms_spec (ws := .codeWith y bytes nL rt.1 hh :: WS) B.pre _ List.mem_cons_self)
    cases B.named.symm.trans b1
    cases B.method.symm.trans b2
    cases (Stand.of_body B).code.symm.trans b3
    exact b6
  rw [lg_entry_eq]
  refine W.cs (cells' := h.length - h.length) (slots' := jx_vol T h - jx_vol T h) (Nat.sub_self _).symm (Nat.sub_self _).symm ?_
  refine jx_soundU (T := T) (cl := cl) (ow := ow) (G := G) (H0 := s0.heap) (rt := rt) (bytes := bytes) (xs := fun _ => none) (n0 := h.length) (v0 := jx_vol T h) jx_suH_g B.exec B.bytes hml hown henv.1 (fun h9 => by rw [hrt] at h9; cases h9) ⟨by show 1 ≤ D + 1 + 8; omega, by show 30 ≤ 100 * (D + 1) + 120; omega⟩ hcd ?_ ?_ ?_ ?_ f 0 (jx_in0 nL as) [] h s.heap [] _ hrun hrep (jx_in0_ls G as hlen) (fun z hz => by cases hz) (Nat.le_refl _) (Nat.le_refl _)
  · rintro hf v ⟨rfl, rfl⟩
    exact ⟨Nat.le_refl _, Nat.le_refl _⟩
  · rintro hf v H1 ls1 locs1 pc1 st1 i1 ⟨rfl, rfl⟩ hr1 hf1 hd1 hrs
    exact jx_retW B.exec B.bytes B.returns B.notSynchronized hrs hd1 hr1 hf1
  · intro pc i lo st g mc as' r g2 v9 H locs ls hi hdo hsu hrep9 hl9' hlf hn0 hv0 hRc hRs kk
    obtain ⟨f9, d9, own9, n9, rt9, cd9, hd9, hM9, hlen9, hlt9, hdD, hr9⟩ := hsu
    have hdo : jx_do T cd own pc rt i lo st g = some (.inr (.inl (mc, as', r))) := by
      rcases hdo with h9 | h9
      · rw [jx_xcall_none] at h9
        cases h9
      · exact h9
    rcases hr9 with ⟨v, e1, hr9⟩ | ⟨ci, e1, -⟩
    · cases e1
      exact jx_callW (d2 := d9) hm B.exec B.bytes hml hown henv (by show d9 + 9 ≤ D + 1 + 8; omega) (by show 100 * d9 + 220 ≤ 100 * (D + 1) + 120; omega) (hcd _ _ hi) hdo hM9 hlen9 hlt9 hr9 hrep9 hl9' hlf hn0 hv0 hRc hRs kk
    · cases e1
  · intro pc i lo st g mc as' r g2 a ci2 pc2 H locs ls hi hdo hsu hcls hhd hrep9 hl9' hlf hn0 hv0 hRc hRs kk
    obtain ⟨f9, d9, own9, n9, rt9, cd9, hd9, hM9, hlen9, hlt9, hdD, hr9⟩ := hsu
    rcases hr9 with ⟨v, e1, -⟩ | ⟨ci, e1, e2, e3, e4, e5, e6⟩
    · cases e1
    · cases e1
      dsimp only at e4
      subst e4
      exact jx_catchW (T0 := T0) (d2 := d9) hm hG hwr hx hxo hl9 hW0 B.exec B.bytes hml hown henv henv0 hpv (by show d9 + 9 ≤ D + 1 + 8; omega) (by show 100 * d9 + 220 ≤ 100 * (D + 1) + 120; omega) (hcd _ _ hi) (hns _ _ hi) hdo hM9 hlen9 hlt9 e2 e3 e6 hcls (by rw [htb]; exact hhd) hrep9 hl9' hlf hn0 hv0 hRc hRs kk
end JXHM
