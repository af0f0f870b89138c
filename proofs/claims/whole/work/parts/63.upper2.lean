/-! ===== the callees of the upper frames ===== -/
def jx_suH (T T0 : jx_T) (M : Nat → Option jx_M) (D : Nat) : jx_Su := fun mc as h res => ∃ (f d own n2 : Nat) (rt : Option FieldType × Bool) (cd : Nat → Option Instr) (hd : Nat → Nat → Option Nat), M mc = some (own, n2, rt, cd, hd) ∧ (lg_sl as).length ≤ n2 ∧ mc < 1000 ∧ d ≤ D ∧
  ((∃ v, res.2 = .inl v ∧ jx_ex T M f d mc (0, jx_in0 n2 as, [], h) = some (res.1, .inl v)) ∨
   ∃ ci, res.2 = .inr h.length ∧ jx_ns T0 ci = 6 ∧ jx_ns T ci = 6 ∧ res.1 = h ++ [.inr (ci, [])] ∧ h.length < jx_big ∧ jx_ex T0 M f d mc (0, jx_in0 n2 as, [], h) = some (h ++ [.inr (ci, [])], .inr h.length))
theorem jx_suH_g {T T0 : jx_T} {M : Nat → Option jx_M} {D : Nat} : jx_sg T (jx_suH T T0 M D) := by
  intro mc as h r hs
  obtain ⟨f, d, own, n2, rt, cd, hd, -, -, -, -, h1⟩ := hs
  rcases h1 with ⟨v, -, h1⟩ | ⟨ci, -, -, -, h1, -⟩
  · exact jx_grow _ _ _ _ _ _ h1
  · rw [h1]
    exact jx_grow_push T h _
/-- the handler that an exception of class ci finds -/
def jx_hdl (T : jx_T) (own pc ci : Nat) : List (Nat × Nat × Nat × Nat) → Option Nat
  | [] => none
  | (a, b, h, k) :: t => if decide (a ≤ pc) && decide (pc < b) && decide (k ≠ 0) then (match jx_ct T own k ci with
    | some true => some h
    | some false => jx_hdl T own pc ci t
    | none => none) else none
theorem jx_hdl_ok {T : jx_T} {cl : List vw_C} {ow : Nat → String} {s : State} {args : Array Value} {own pc ci cls : Nat} {r : vw_C} (hT : jx_okT T cl ow s) (hr : cl[ci]? = some r) (hc : s.vm.findClass r.1 = some cls) :
    ∀ (tbl : List ExceptionTableEntry) (pc2 : Nat), jx_hdl T own pc ci (tbl.map (fun h => (h.startPc, h.endPc, h.handlerPc, h.catchType))) = some pc2 → ∃ (pre : List ExceptionTableEntry) (x : ExceptionTableEntry) (rest : List ExceptionTableEntry), tbl = pre ++ x :: rest ∧ x.handlerPc = pc2 ∧ jx_en (ow own) args s pc cls true x ∧ ∀ y ∈ pre, jx_en (ow own) args s pc cls false y := by
  intro tbl
  induction tbl with
  | nil => intro pc2 h; cases h
  | cons x t ih =>
    intro pc2 h
    rw [List.map_cons, jx_hdl] at h
    split at h
    · rename_i hcov
      obtain ⟨hcov, h0⟩ := (Bool.and_eq_true _ _).mp hcov
      have h0 := of_decide_eq_true h0
      split at h
      · rename_i hct
        cases h
        obtain ⟨r1, nm, a1, a2, a3, -⟩ := hT.1 _ _ _ _ hct
        cases hr.symm.trans a1
        refine ⟨[], x, t, rfl, rfl, ⟨hcov, h0, nm, ?_⟩, fun y hy => by cases hy⟩
        rcases a3 rfl with ⟨e1, cC, e2⟩ | a3
        · subst e1
          exact ⟨cls, a2 args, hc, by rw [Vm.assignable, Vm.assignableAux]; simp⟩
        · obtain ⟨c3, t3, w1, w2, w3⟩ := Cond.castable_spec (a3 args)
          cases hc.symm.trans w1
          exact ⟨t3, a2 args, w2, w3⟩
      · rename_i hct
        obtain ⟨pre, x2, rest, e1, e2, e3, e4⟩ := ih pc2 h
        obtain ⟨r1, nm, a1, a2, -, a4⟩ := hT.1 _ _ _ _ hct
        cases hr.symm.trans a1
        refine ⟨x :: pre, x2, rest, by rw [e1]; rfl, e2, e3, fun y hy => ?_⟩
        rcases List.mem_cons.mp hy with rfl | hy
        · obtain ⟨c3, t3, w1, w2, w3⟩ := a4 rfl
          cases hc.symm.trans w1
          exact ⟨hcov, h0, nm, t3, a2 args, w2, w3⟩
        · exact e4 y hy
      · cases h
    · cases h
section JXV
variable {T T0 : jx_T} {cl : List vw_C} {ow : Nat → String} {G : jx_G} {H0 : Heap} {M : Nat → Option jx_M} {N : Nat → MethodName × ByteArray} {WS : List Cond}
variable {p : Program} {l : Launch} {e : Env} {R : Room} {s : State} {m : MethodId} {args : Array Value} {below : List Frame} {meth : Method} {c : Code} {Q : State → Prop} {H : Heap} {locs : List Loc} {ls : Array Slot}
/-- an ordinary callee returns -/
theorem jx_callW {own nL pc n0 v0 : Nat} {rt : Option FieldType × Bool} {cd : Nat → Option Instr} {bytes : ByteArray} {i : Instr} {lo : jx_L} {st : List Value} {h h2 : jx_H} {mc : Nat} {as r : List Value} {v2 : Option Value} {f d2 own2 nL2 : Nat} {rt2 : Option FieldType × Bool} {cd2 : Nat → Option Instr} {hd2 : Nat → Nat → Option Nat} (hm : jx_mok M N WS ow)
    (hexec : p.tables.exec = Jvm.exec) (hb : c.code = bytes) (hml : c.maxLocals = nL) (hown : s.vm.findClass (ow own) = some m.cls) (henv : jx_env T cl ow G H0 N WS s) (hRf : d2 + 9 ≤ R.frames) (hRl : 100 * d2 + 220 ≤ R.locals)
    (hdec : ∃ len, decode bytes pc = .ok (i, len) ∧ (jx_isSwitch i = false → len = jx_len i)) (hdo : jx_do T cd own pc rt i lo st h = some (.inr (.inl (mc, as, r))))
    (hM2 : M mc = some (own2, nL2, rt2, cd2, hd2)) (hlen : (lg_sl as).length ≤ nL2) (hlt : mc < 1000) (hrun : jx_ex T M f d2 mc (0, jx_in0 nL2 as, [], h) = some (h2, .inl v2)) (hrep : jx_rep G cl H0 h H) (hl : jx_ls G nL ls lo) (hlf : ∀ z ∈ locs, jx_fre T G z.base) (hn0 : n0 ≤ h.length) (hv0 : v0 ≤ jx_vol T h) (hRc : h2.length - n0 ≤ R.cells) (hRs : jx_vol T h2 - v0 ≤ R.slots)
    (kk : ∀ (H1 : Heap) (locs1 : List Loc), jx_rep G cl H0 h2 H1 → (∀ z ∈ locs1, jx_fre T G z.base) → W p l e R s m args below meth c H1 locs1 (h2.length - n0) (jx_vol T h2 - v0) Q (F0 m (pc + 3) ls ((v2.toList ++ r).map (jx_v G)))) :
    W p l e R s m args below meth c H locs (h.length - n0) (jx_vol T h - v0) Q (F0 m pc ls (st.map (jx_v G))) := by
  obtain ⟨hok, hcok, hws⟩ := id henv
  obtain ⟨k, hw, hcall⟩ := jx_do_call hdo
  have g1 := jx_grow _ _ _ _ _ _ hrun
  dsimp only at g1
  obtain ⟨w1, w2, w3, w4, w5, w6, w7, w8⟩ := hm _ _ _ _ _ _ hM2
  have hMet := jx_met hm (jx_sound (T := T) (cl := cl) (G := G) (H0 := H0) hm f) hM2 hlen hrun l
  have hw2 : ((r.map (jx_v G)).map fun v => v.category).sum ≤ 8 := by rw [jx_cat_sum]; exact hw
  have hgo : va_Run p l e R s m args below meth c H locs (h.length - n0) (jx_vol T h - v0) (h2.length - h.length) (jx_vol T h2 - jx_vol T h) (F0 m pc ls (st.map (jx_v G))) (r.map (jx_v G)) (jx_Q G cl H0 h2 v2 (as.map (jx_v G)).toArray) (jx_fre T G) := by
    rcases hcall with ⟨rfl, n, hcs, hn, rfl⟩ | ⟨n, g, a, ci, bs, rfl, hn, rfl, hci, hg, hk⟩
    · obtain ⟨len, hd0, hln⟩ := hdec
      obtain rfl := hln rfl
      exact jx_runS hexec hb hml hown hws (w1 hlt) (hcok.1 _ _ _ _ hcs) hMet rfl rfl (by show d2 + 8 + 1 ≤ R.frames; omega) (by show 8 + (nL2 + 11) + (100 * d2 + 120) ≤ R.locals; omega) ⟨jx_P.blind, fun U hU hW => ⟨rfl, by rw [hU]; exact hrep, henv.warm hW⟩⟩ (by rw [List.length_map]; exact hn) hl.2.1 (by rw [List.map_append, List.map_reverse]) hw2 hd0 ⟨by omega, by omega⟩
    · obtain ⟨len, hd0, hln⟩ := hdec
      obtain ⟨r1, cell, q1, q2, q3, q4⟩ := jx_cls_at hok.2.1 hok.2.2.2.2.1 hrep hci
      rcases hk with ⟨rfl, hcv⟩ | ⟨rfl, hcv, hbg⟩
      · obtain rfl := hln rfl
        obtain ⟨r2, e1, e2⟩ := hcok.2.1 _ _ _ _ _ _ hcv hg
        cases q1.symm.trans e1
        exact jx_runV (b := jx_mu G a) (As := bs.map (jx_v G)) hexec hb hml hown hws (w1 hlt) e2 hMet rfl rfl (by show d2 + 8 + 1 ≤ R.frames; omega) (by show 8 + (nL2 + 11) + (100 * d2 + 120) ≤ R.locals; omega) ⟨jx_P.blind, ⟨cell, q2, q3, q4⟩, fun U hU hW => ⟨rfl, by rw [hU]; exact hrep, henv.warm hW⟩⟩ (by rw [List.length_map]; exact hn) hl.2.1 (by rw [List.map_append, List.map_reverse]; rfl) hw2 hd0 ⟨by omega, by omega⟩
      · obtain rfl := hln rfl
        obtain ⟨r2, e1, e2⟩ := hcok.2.2 _ _ _ _ _ _ hcv hg
        cases q1.symm.trans e1
        have hci0 : ci < G.2.2.2.2.2 := jx_cls_in hrep hci hbg
        exact jx_runI (b := jx_mu G a) (As := bs.map (jx_v G)) hexec hb hml hown hws (w1 hlt) (hok.2.1 _ _ hci0 q1).1.2 e2 w6 hMet rfl rfl (by show d2 + 8 + 1 ≤ R.frames; omega) (by show 8 + (nL2 + 11) + (100 * d2 + 120) ≤ R.locals; omega) ⟨jx_P.blind, ⟨cell, q2, q3, q4⟩, fun U hU hW => ⟨rfl, by rw [hU]; exact hrep, henv.warm hW⟩⟩ (by rw [List.length_map]; exact hn) hl.2.1 (by rw [List.map_append, List.map_reverse]; rfl) hw2 hd0 ⟨by omega, by omega⟩
  intro T1 hT1 X
  obtain ⟨v3, st₀, t, T', L, h0, X', hL, e1, e2, ⟨ho, hrep2⟩, hst⟩ := hgo T1 hT1 X
  cases ho
  have hrest := kk T'.heap (locs ++ L) (by rw [e1]; exact hrep2)
    (fun z hz => by
      rcases List.mem_append.mp hz with hz | hz
      · exact hlf z hz
      · exact hL z hz)
  have hc1 : h.length - n0 + (h2.length - h.length) = h2.length - n0 := by
    clear hcall hdec hdo hgo hst
    omega
  have hs1 : jx_vol T h - v0 + (jx_vol T h2 - jx_vol T h) = jx_vol T h2 - v0 := by
    clear hcall hdec hdo hgo hst
    omega
  have hstk : (v2.toList ++ r).map (jx_v G) = (v2.map (jx_v G)).toList ++ r.map (jx_v G) := by cases v2 <;> simp
  rw [hstk] at hrest
  obtain ⟨t2, a1, b1⟩ := W.cs hc1 hs1 hrest T' rfl X'
  exact ⟨t2, hst t2 a1, b1⟩
end JXV
