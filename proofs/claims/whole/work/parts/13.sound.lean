/-- a run of a frame up to its method's return: from the abstract machine to the machine -/
def jx_fr (T : jx_T) (cl : List vw_C) (ow : Nat → String) (G : jx_G) (H0 : Heap) (M : Nat → Option jx_M) (N : Nat → MethodName × ByteArray) (WS : List Cond) (f : Nat) : Prop :=
  ∀ (d mi pc : Nat) (lo : jx_L) (st : List Value) (h hf : jx_H) (v : Option Value), jx_ex T M f d mi (pc, lo, st, h) = some (hf, .inl v) →
  ∀ (p : Program) (l : Launch) (e : Env) (R : Room) (s : State) (m : MethodId) (args : Array Value) (below : List Frame) (meth : Method) (c : Code) (H : Heap) (locs : List Loc) (Q : State → Prop) (own nL : Nat) (rt : Option FieldType × Bool) (cd : Nat → Option Instr) (hd : Nat → Nat → Option Nat) (n0 v0 : Nat) (ls : Array Slot),
    M mi = some (own, nL, rt, cd, hd) → p.tables.exec = Jvm.exec → c.code = (N mi).2 → c.maxLocals = nL → s.vm.findClass (ow own) = some m.cls → jx_env T cl ow G H0 N WS s → (rt.2 = true → meth.name = "<init>") →
    d + 8 ≤ R.frames → 100 * d + 120 ≤ R.locals → hf.length - n0 ≤ R.cells → jx_vol T hf - v0 ≤ R.slots → jx_rep G cl H0 h H → jx_ls G nL ls lo → (∀ z ∈ locs, jx_fre T G z.base) → n0 ≤ h.length → v0 ≤ jx_vol T h →
    (∀ (H1 : Heap) (ls1 : Array Slot) (locs1 : List Loc) (pc1 : Nat) (st1 : List Value) (i1 : Instr), jx_rep G cl H0 hf H1 → (∀ z ∈ locs1, jx_fre T G z.base) → decode (N mi).2 pc1 = .ok (i1, 1) → jx_rets rt.1 i1 st1 v →
      W p l e R s m args below meth c H1 locs1 (hf.length - n0) (jx_vol T hf - v0) Q (F0 m pc1 ls1 (st1.map (jx_v G)))) →
    W p l e R s m args below meth c H locs (h.length - n0) (jx_vol T h - v0) Q (F0 m pc ls (st.map (jx_v G)))
section JXS
theorem jx_cls_in {T : jx_T} {cl : List vw_C} {G : jx_G} {H0 H : Heap} {h : jx_H} {a ci : Nat} (hr : jx_rep G cl H0 h H) (hc : jx_cls T h a = some ci) (hb : a < jx_big) : ci < G.2.2.2.2.2 := by
  unfold jx_cls at hc
  rw [if_pos hb] at hc
  split at hc
  · rename_i o ho
    cases hc
    exact (hr.2.1 a _ ho).1
  · cases hc
variable {T : jx_T} {cl : List vw_C} {ow : Nat → String} {G : jx_G} {H0 : Heap} {M : Nat → Option jx_M} {N : Nat → MethodName × ByteArray} {WS : List Cond}
/-- a method's contract, out of its run -/
theorem jx_met (hm : jx_mok M N WS ow) {f d mi : Nat} (ih : jx_fr T cl ow G H0 M N WS f) {own nL : Nat} {rt : Option FieldType × Bool} {cd : Nat → Option Instr} {hd : Nat → Nat → Option Nat} (hM : M mi = some (own, nL, rt, cd, hd)) {as : List Value} {h h2 : jx_H} {v : Option Value} (hlen : (lg_sl as).length ≤ nL)
    (hrun : jx_ex T M f d mi (0, jx_in0 nL as, [], h) = some (h2, .inl v)) (l : Launch) :
    Met l (N mi).1 (.code (N mi).1 (N mi).2 nL rt.1 :: WS) (jx_rm d (h2.length - h.length) (jx_vol T h2 - jx_vol T h)) (jx_P T cl ow G H0 N WS as h) (jx_Q G cl H0 h2 v) (h2.length - h.length) (jx_vol T h2 - jx_vol T h) (jx_fre T G) := by
  obtain ⟨m1, m2, m3, m4, m5, m6, m7, m8⟩ := hm _ _ _ _ _ _ hM
  refine Met.ofW (cc := (N mi).2) (maxL := nL) (ret := rt.1) m2 rfl ?_
  intro p e s m args below meth c s₁ B hml hv
  obtain ⟨rfl, hrep, henv⟩ := hv
  rw [lg_entry_eq]
  have hown : s.vm.findClass (ow own) = some m.cls := by rw [← m3]; exact findClass_of_methodNamed B.named
  refine W.cs (cells' := h.length - h.length) (slots' := jx_vol T h - jx_vol T h) (Nat.sub_self _).symm (Nat.sub_self _).symm ?_
  refine ih d mi 0 (jx_in0 nL as) [] h h2 v hrun p l e _ s m _ below meth c s.heap [] _ own nL rt cd hd h.length (jx_vol T h) _ hM B.exec B.bytes hml hown henv ?_ (Nat.le_refl _) (Nat.le_refl _) (Nat.le_refl _) (Nat.le_refl _) hrep (jx_in0_ls G as hlen) (fun z hz => by cases hz) (Nat.le_refl _) (Nat.le_refl _) ?_
  · intro hi
    rw [(name_of_methodNamed B.named B.method).1]
    exact m5 hi
  · intro H1 ls1 locs1 pc1 st1 i1 hr1 hf1 hd1 hrs
    exact jx_retW B.exec B.bytes B.returns B.notSynchronized hrs hd1 hr1 hf1
theorem jx_cat_sum (G : jx_G) (r : List Value) : ((r.map (jx_v G)).map fun v => v.category).sum = (r.map fun v => v.category).sum := by
  rw [List.map_map, show ((fun v : Value => v.category) ∘ jx_v G) = (fun v => v.category) from funext (fun v => jx_v_cat G v)]
set_option maxHeartbeats 4000000 in
theorem jx_sound (hm : jx_mok M N WS ow) : ∀ f : Nat, jx_fr T cl ow G H0 M N WS f := by
  intro f
  induction f with
  | zero => intro d mi pc lo st h hf v hx; cases hx
  | succ f ih =>
    intro d mi pc lo st h hf v hx p l e R s m args below meth c H locs Q own nL rt cd hd n0 v0 ls hM hexec hb hml hown henv hini hRf hRl hRc hRs hrep hl hlf hn0 hv0 hret
    obtain ⟨m1, m2, m3, m4, m5, m6, m7, m8⟩ := hm _ _ _ _ _ _ hM
    obtain ⟨hok, hcok, hws⟩ := id henv
    rw [jx_ex_succ] at hx
    unfold jx_one at hx
    rw [hM] at hx
    dsimp only at hx
    split at hx
    · cases hx
    · rename_i i hi
      have hdec := m7 _ _ hi
      split at hx
      · cases hx
      · rename_i F2 hdo
        obtain ⟨pc2, lo2, st2, h2⟩ := F2
        have g1 := jx_do_grow hdo
        have g2 := jx_grow _ _ _ _ _ _ hx
        dsimp only at g1 g2
        refine jx_s_all (T := T) (cd := cd) (rt := rt) (n0 := n0) (v0 := v0) hexec hb hown hok hml hini ⟨by omega, by omega⟩ hdec hl hrep hlf hn0 hv0 hdo ⟨by dsimp only; omega, by dsimp only; omega⟩ (fun H1 ls1 locs1 hr1 hl1 hf1 => ?_)
        exact ih d mi pc2 lo2 st2 h2 hf v hx p l e R s m args below meth c H1 locs1 Q own nL rt cd hd n0 v0 ls1 hM hexec hb hml hown henv hini hRf hRl hRc hRs hr1 hl1 hf1 (by omega) (by omega) hret
      · rename_i mc as r hdo
        obtain ⟨k, hw, hcall⟩ := jx_do_call hdo
        split at hx
        · rename_i d2 own2 nL2 rt2 cd2 hd2 hM2
          split at hx
          · rename_i hlen
            split at hx
            · rename_i h2 v2 hrun
              have g1 := jx_grow _ _ _ _ _ _ hrun
              have g2 := jx_grow _ _ _ _ _ _ hx
              dsimp only at g1 g2
              obtain ⟨w1, w2, w3, w4, w5, w6, w7, w8⟩ := hm _ _ _ _ _ _ hM2
              have hMet := jx_met hm ih hM2 hlen.1 hrun l
              have hw2 : ((r.map (jx_v G)).map fun v => v.category).sum ≤ 8 := by rw [jx_cat_sum]; exact hw
              have hgo : va_Run p l e R s m args below meth c H locs (h.length - n0) (jx_vol T h - v0) (h2.length - h.length) (jx_vol T h2 - jx_vol T h) (F0 m pc ls (st.map (jx_v G))) (r.map (jx_v G)) (jx_Q G cl H0 h2 v2 (as.map (jx_v G)).toArray) (jx_fre T G) := by
                rcases hcall with ⟨rfl, n, hcs, hn, rfl⟩ | ⟨n, g, a, ci, bs, rfl, hn, rfl, hci, hg, hk⟩
                · obtain ⟨len, hd0, hln⟩ := hdec
                  obtain rfl := hln rfl
                  exact jx_runS hexec hb hml hown hws (w1 hlen.2) (hcok.1 _ _ _ _ hcs) hMet rfl rfl (by show d2 + 8 + 1 ≤ R.frames; omega) (by show 8 + (nL2 + 11) + (100 * d2 + 120) ≤ R.locals; omega) ⟨jx_P.blind, fun U hU hW => ⟨rfl, by rw [hU]; exact hrep, henv.warm hW⟩⟩ (by rw [List.length_map]; exact hn) hl.2.1 (by rw [List.map_append, List.map_reverse]) hw2 hd0 ⟨by omega, by omega⟩
                · obtain ⟨len, hd0, hln⟩ := hdec
                  obtain ⟨r1, cell, q1, q2, q3, q4⟩ := jx_cls_at hok.2.1 hok.2.2.2.2.1 hrep hci
                  rcases hk with ⟨rfl, hcv⟩ | ⟨rfl, hcv, hbg⟩
                  · obtain rfl := hln rfl
                    obtain ⟨r2, e1, e2⟩ := hcok.2.1 _ _ _ _ _ _ hcv hg
                    cases q1.symm.trans e1
                    exact jx_runV (b := jx_mu G a) (As := bs.map (jx_v G)) hexec hb hml hown hws (w1 hlen.2) e2 hMet rfl rfl (by show d2 + 8 + 1 ≤ R.frames; omega) (by show 8 + (nL2 + 11) + (100 * d2 + 120) ≤ R.locals; omega) ⟨jx_P.blind, ⟨cell, q2, q3, q4⟩, fun U hU hW => ⟨rfl, by rw [hU]; exact hrep, henv.warm hW⟩⟩ (by rw [List.length_map]; exact hn) hl.2.1 (by rw [List.map_append, List.map_reverse]; rfl) hw2 hd0 ⟨by omega, by omega⟩
                  · obtain rfl := hln rfl
                    obtain ⟨r2, e1, e2⟩ := hcok.2.2 _ _ _ _ _ _ hcv hg
                    cases q1.symm.trans e1
                    have hci0 : ci < G.2.2.2.2.2 := jx_cls_in hrep hci hbg
                    exact jx_runI (b := jx_mu G a) (As := bs.map (jx_v G)) hexec hb hml hown hws (w1 hlen.2) (hok.2.1 _ _ hci0 q1).1.2 e2 w6 hMet rfl rfl (by show d2 + 8 + 1 ≤ R.frames; omega) (by show 8 + (nL2 + 11) + (100 * d2 + 120) ≤ R.locals; omega) ⟨jx_P.blind, ⟨cell, q2, q3, q4⟩, fun U hU hW => ⟨rfl, by rw [hU]; exact hrep, henv.warm hW⟩⟩ (by rw [List.length_map]; exact hn) hl.2.1 (by rw [List.map_append, List.map_reverse]; rfl) hw2 hd0 ⟨by omega, by omega⟩
              intro T0 hT0 X
              obtain ⟨v3, st₀, t, T', L, h0, X', hL, e1, e2, ⟨ho, hrep2⟩, hst⟩ := hgo T0 hT0 X
              cases ho
              have hrest := ih (d2 + 1) mi (pc + 3) lo (v2.toList ++ r) h2 hf v hx p l e R s m args below meth c T'.heap (locs ++ L) Q own nL rt cd hd n0 v0 ls hM hexec hb hml hown henv hini hRf hRl hRc hRs (by rw [e1]; exact hrep2) hl
                (fun z hz => by
                  rcases List.mem_append.mp hz with hz | hz
                  · exact hlf z hz
                  · exact hL z hz) (by omega) (by omega) hret
              have hc1 : h.length - n0 + (h2.length - h.length) = h2.length - n0 := by omega
              have hs1 : jx_vol T h - v0 + (jx_vol T h2 - jx_vol T h) = jx_vol T h2 - v0 := by omega
              have hstk : (v2.toList ++ r).map (jx_v G) = (v2.map (jx_v G)).toList ++ r.map (jx_v G) := by cases v2 <;> simp
              rw [hstk] at hrest
              obtain ⟨t2, a1, b1⟩ := W.cs hc1 hs1 hrest T' rfl X'
              exact ⟨t2, hst t2 a1, b1⟩
            · rename_i h2 a hrun
              split at hx
              · split at hx
                · rename_i hh
                  rw [m8] at hh
                  cases hh
                · cases hx
              · cases hx
            · cases hx
          · cases hx
        · cases hx
      · rename_i v2 hdo
        cases hx
        have hrs := jx_do_ret hdo
        obtain ⟨len, hd0, hln⟩ := hdec
        have hl1 : len = 1 := by
          rcases hrs with ⟨rfl, _⟩ | ⟨rfl, _⟩ | ⟨rfl, _⟩ | ⟨rfl, _⟩ <;> exact hln rfl
        subst hl1
        exact hret H ls locs pc st i hrep hlf hd0 hrs
      · cases hx
end JXS
