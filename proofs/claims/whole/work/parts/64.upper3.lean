/-! ===== an upper frame catches ===== -/
def jx_noSS (i : Instr) : Bool := match i with
  | .invokestatic _ => false
  | .invokespecial _ => false
  | _ => true
/-- calls of the plainest kind -/
def jx_plV (T : jx_T) (cl : List vw_C) (ow : Nat → String) (N : Nat → MethodName × ByteArray) (own : Nat) (s : State) : Prop := ∀ (k n : Nat) (g : Nat → Option Nat) (ci m2 : Nat), jx_cv T own k = some (n, g) → g ci = some m2 → ∃ r : vw_C, cl[ci]? = some r ∧ jx_w (.instanceMethod (N m2).1) s ∧ jx_w (.initialized (N m2).1.cls) s ∧ jx_w (.methodLink (ow own) k (N m2).1) s ∧ jx_w (.selects r.1 (N m2).1 (N m2).1) s ∧ jx_nmh (N m2).1 n
theorem jx_plV.warm {T : jx_T} {cl : List vw_C} {ow : Nat → String} {N : Nat → MethodName × ByteArray} {own : Nat} {s U : State} (hW : s.WarmedH U.vm) (h : jx_plV T cl ow N own s) : jx_plV T cl ow N own U := by
  intro k n g ci m2 h1 h2
  obtain ⟨r, a1, a2, a3, a4, a5, a6⟩ := h k n g ci m2 h1 h2
  exact ⟨r, a1, a2.warm hW rfl, a3.warm hW rfl, a4.warm hW rfl, a5.warm hW rfl, a6⟩
abbrev jx_C_x (ci : Nat) : jx_C := .inr (ci, [])
section JXK
variable {T T0 : jx_T} {cl : List vw_C} {ow : Nat → String} {G : jx_G} {s0 : State} {M : Nat → Option jx_M} {N : Nat → MethodName × ByteArray} {WS : List Cond}
variable {p : Program} {l : Launch} {e : Env} {R : Room} {s : State} {m : MethodId} {args : Array Value} {below : List Frame} {meth : Method} {c : Code} {Q : State → Prop} {H : Heap} {locs : List Loc} {ls : Array Slot}
theorem jx_catchW {own nL pc pc2 n0 v0 : Nat} {rt : Option FieldType × Bool} {cd : Nat → Option Instr} {bytes : ByteArray} {i : Instr} {lo : jx_L} {st : List Value} {h : jx_H} {mc : Nat} {as r : List Value} {f d2 own2 nL2 ci ci2 : Nat} {rt2 : Option FieldType × Bool} {cd2 : Nat → Option Instr} {hd2 : Nat → Nat → Option Nat} (hm : jx_mok M N WS ow)
    (hG : G.1 = s0.heap.size) (hwr : ∀ a, jx_wr T0 a = false) (hx : jx_xt G s0.heap s0) (hxo : jx_xok T0 cl ow G s0) (hl9 : l.stackTraces = false) (hW0 : s0.WarmedH s.vm)
    (hexec : p.tables.exec = Jvm.exec) (hb : c.code = bytes) (hml : c.maxLocals = nL) (hown : s.vm.findClass (ow own) = some m.cls) (henv : jx_env T cl ow G s0.heap N WS s) (henv0 : jx_env T0 cl ow G s0.heap N WS s) (hpv : jx_plV T cl ow N own s) (hRf : d2 + 9 ≤ R.frames) (hRl : 100 * d2 + 220 ≤ R.locals)
    (hdec : ∃ len, decode bytes pc = .ok (i, len) ∧ (jx_isSwitch i = false → len = jx_len i)) (hns : jx_noSS i = true) (hdo : jx_do T cd own pc rt i lo st h = some (.inr (.inl (mc, as, r))))
    (hM2 : M mc = some (own2, nL2, rt2, cd2, hd2)) (hlen : (lg_sl as).length ≤ nL2) (hlt : mc < 1000) (hs0 : jx_ns T0 ci = 6) (hs6 : jx_ns T ci = 6) (hrun : jx_ex T0 M f d2 mc (0, jx_in0 nL2 as, [], h) = some (h ++ [.inr (ci, [])], .inr h.length)) (hcls : jx_cls T (h ++ [.inr (ci, [])]) h.length = some ci2) (hhd : jx_hdl T own pc ci2 (c.exceptionTable.toList.map (fun h => (h.startPc, h.endPc, h.handlerPc, h.catchType))) = some pc2)
    (hrep : jx_rep G cl s0.heap h H) (hl : jx_ls G nL ls lo) (hlf : ∀ z ∈ locs, jx_fre T G z.base) (hn0 : n0 ≤ h.length) (hv0 : v0 ≤ jx_vol T h) (hRc : (h ++ [jx_C_x ci]).length - n0 ≤ R.cells) (hRs : jx_vol T (h ++ [jx_C_x ci]) - v0 ≤ R.slots)
    (kk : ∀ (H1 : Heap) (locs1 : List Loc), jx_rep G cl s0.heap (h ++ [jx_C_x ci]) H1 → (∀ z ∈ locs1, jx_fre T G z.base) → W p l e R s m args below meth c H1 locs1 ((h ++ [jx_C_x ci]).length - n0) (jx_vol T (h ++ [jx_C_x ci]) - v0) Q (F0 m pc2 ls ([Value.ref h.length].map (jx_v G)))) :
    W p l e R s m args below meth c H locs (h.length - n0) (jx_vol T h - v0) Q (F0 m pc ls (st.map (jx_v G))) := by
  obtain ⟨hok, hcok, hws⟩ := id henv
  have hvol : jx_vol T (h ++ [jx_C_x ci]) = jx_vol T h + 6 := by rw [jx_vol_push]; exact congrArg _ hs6
  have hll : (h ++ [jx_C_x ci]).length = h.length + 1 := by simp
  have hc1 : h.length - n0 + 1 = (h ++ [jx_C_x ci]).length - n0 := by rw [hll]; clear hdec; omega
  have hs1 : jx_vol T h - v0 + 6 = jx_vol T (h ++ [jx_C_x ci]) - v0 := by rw [hvol]; clear hdec; omega
  obtain ⟨w1, w2, w3, w4, w5, w6, w7, w8⟩ := hm _ _ _ _ _ _ hM2
  have hMT := jx_metT hm hG hwr hx hxo hM2 hs0 hlen hrun l hl9
  obtain ⟨k, hw, hcall⟩ := jx_do_call hdo
  rcases hcall with ⟨rfl, n, hcs, hn, rfl⟩ | ⟨n, g, a, ci0, bs, rfl, hn, rfl, hci, hg, hk⟩
  · cases hns
  · obtain ⟨len, hd0, hln⟩ := hdec
    obtain ⟨r1, cell, q1, q2, q3, q4⟩ := jx_cls_at hok.2.1 hok.2.2.2.2.1 hrep hci
    rcases hk with ⟨rfl, hcv⟩ | ⟨rfl, hcv, hbg⟩
    · obtain rfl := hln rfl
      obtain ⟨r2, e1, e2, e3, e4, e5, e6, e7, e8⟩ := hpv _ _ _ _ _ hcv hg
      cases q1.symm.trans e1
      have hcb := w1 hlt
      intro T1 hT1 X
      obtain ⟨st', t, U', X', hU', hq, hst⟩ := jx_callVT X hexec (C := r1.1) (x := jx_mu G h.length) (k := 1) (n := 6) hown (e4 args) (e2 args) (e5 args) ((hws _ hcb).2 args) (e3 args) ⟨e6, e7⟩ hMT (by show d2 + 8 + 1 ≤ R.frames; omega) (by show 8 + (nL2 + 11) + (100 * d2 + 120) ≤ R.locals; omega) (by show h.length - n0 + 1 ≤ R.cells; omega) (by show jx_vol T h - v0 + 6 ≤ R.slots; omega)
        (fun a' U hWU => atoms_intro fun w hw' => jx_hws hws hcb w hw' a' U hWU) (b := jx_mu G a) (by rw [hT1]; exact q2) q3 q4 (g := F0 m pc ls ((bs.reverse ++ .ref a :: r).map (jx_v G))) rfl (by rw [hml]; exact hl.2.1) (argsL := bs.map (jx_v G)) (rest := r.map (jx_v G)) (fun sig hsig => by rw [List.length_map, hn]; exact jx_len_of e8 sig hsig)
        (by show (bs.reverse ++ .ref a :: r).map (jx_v G) = _; rw [List.map_append, List.map_reverse]; rfl) (by show 2 * 0 + _ ≤ 8; rw [jx_cat_sum]; omega) (by rw [hb]; exact hd0)
        (fun U hU hWU => ⟨⟨rfl, by rw [hU, hT1]; exact hrep, henv0.warm hWU⟩, State.WarmedH.trans hW0 hWU⟩) (fun a' st' o t hq => ⟨hq.1, hq.2.2.1, hq.2.2.2⟩)
      have hrep2 : jx_rep G cl s0.heap (h ++ [jx_C_x ci]) U'.heap := by rw [hU']; exact hq.2.1
      obtain ⟨rX, cX, x1, x2, x3, x4⟩ := jx_cls_at hok.2.1 hok.2.2.2.2.1 hrep2 hcls
      obtain ⟨pre, y, rest, y1, rfl, y2, y3⟩ := jx_hdl_ok (args := args) hok.2.2.2.2.2.2.2.2.1 x1 x4 _ _ hhd
      have hpl : e.platform.magicAccessors = ({} : Platform).magicAccessors := by rw [X.admits.platform]
      obtain ⟨vm', hWv, hfw⟩ := jx_find (e := e) (args := args) (a := jx_mu G h.length) (f := { F0 m pc ls ((bs.reverse ++ .ref a :: r).map (jx_v G)) with stack := r.map (jx_v G) }) hpl hown x3 (Vm.classAt_of_findClass x4) y rest y2 pre ((U'.setTop { F0 m pc ls ((bs.reverse ++ .ref a :: r).map (jx_v G)) with stack := r.map (jx_v G) }).pushFrame (.throwing (jx_mu G h.length))) (by rw [Stand.throwing_vm]; exact X'.warmed) (by rw [Stand.throwing_heap]; exact x2) y3
      obtain ⟨t2, a1, b1⟩ := W.cs hc1 hs1 (kk U'.heap locs hrep2 hlf) (U'.setVm vm') rfl (X'.noted hWv)
      have hmm : U'.vm.method? m = some meth := by rw [X'.warmed.alike.method?]; exact X.method
      exact ⟨t2, hst t2 (jx_caught (g := { F0 m pc ls ((bs.reverse ++ .ref a :: r).map (jx_v G)) with stack := r.map (jx_v G) }) X'.here hmm X.code (by rw [y1]; exact hfw) a1), b1⟩
    · cases hns
end JXK
