/-! ===== a run of a frame up to its method's throw ===== -/
/-- where an exception is made and thrown: 'new', 'dup', its constructor, 'athrow' -/
def jx_thr (T : jx_T) (own : Nat) (cc : ByteArray) (pc : Nat) (h1 hf : jx_H) (a : Nat) : Prop := ∃ k ic ci : Nat, jx_xc T own k = some (ic, ci) ∧ decode cc pc = .ok (.new k, 3) ∧ decode cc (pc + 3) = .ok (.dup, 1) ∧ decode cc (pc + 4) = .ok (.invokespecial ic, 3) ∧ decode cc (pc + 7) = .ok (.athrow, 1) ∧ h1.length < jx_big ∧ a = h1.length ∧ hf = h1 ++ [.inr (ci, [])]
section JXTS
variable {T : jx_T} {cl : List vw_C} {ow : Nat → String} {G : jx_G} {H0 : Heap} {M : Nat → Option jx_M} {N : Nat → MethodName × ByteArray} {WS : List Cond}
set_option maxHeartbeats 4000000 in
theorem jx_soundT (hm : jx_mok M N WS ow) : ∀ (f d mi pc : Nat) (lo : jx_L) (st : List Value) (h hf : jx_H) (a : Nat), jx_ex T M f d mi (pc, lo, st, h) = some (hf, .inr a) →
  ∀ (p : Program) (l : Launch) (e : Env) (R : Room) (s : State) (m : MethodId) (args : Array Value) (below : List Frame) (meth : Method) (c : Code) (H : Heap) (locs : List Loc) (Q : State → Prop) (own nL : Nat) (rt : Option FieldType × Bool) (cd : Nat → Option Instr) (hd : Nat → Nat → Option Nat) (n0 v0 : Nat) (ls : Array Slot),
    M mi = some (own, nL, rt, cd, hd) → p.tables.exec = Jvm.exec → c.code = (N mi).2 → c.maxLocals = nL → s.vm.findClass (ow own) = some m.cls → jx_env T cl ow G H0 N WS s → (rt.2 = true → meth.name = "<init>") →
    d + 8 ≤ R.frames → 100 * d + 120 ≤ R.locals → hf.length - n0 ≤ R.cells → jx_vol T hf - v0 ≤ R.slots → jx_rep G cl H0 h H → jx_ls G nL ls lo → (∀ z ∈ locs, jx_fre T G z.base) → n0 ≤ h.length → v0 ≤ jx_vol T h →
    (∀ (H1 : Heap) (ls1 : Array Slot) (locs1 : List Loc) (pc1 : Nat) (h1 : jx_H), jx_rep G cl H0 h1 H1 → (∀ z ∈ locs1, jx_fre T G z.base) → ls1.size = nL → n0 ≤ h1.length → v0 ≤ jx_vol T h1 → jx_thr T own (N mi).2 pc1 h1 hf a →
      W p l e R s m args below meth c H1 locs1 (h1.length - n0) (jx_vol T h1 - v0) Q (F0 m pc1 ls1 [])) →
    W p l e R s m args below meth c H locs (h.length - n0) (jx_vol T h - v0) Q (F0 m pc ls (st.map (jx_v G))) := by
  intro f
  induction f with
  | zero => intro d mi pc lo st h hf a hx; cases hx
  | succ f ih =>
    intro d mi pc lo st h hf a hx p l e R s m args below meth c H locs Q own nL rt cd hd n0 v0 ls hM hexec hb hml hown henv hini hRf hRl hRc hRs hrep hl hlf hn0 hv0 hthr
    obtain ⟨m1, m2, m3, m4, m5, m6, m7, m8⟩ := hm _ _ _ _ _ _ hM
    obtain ⟨hok, hcok, hws⟩ := id henv
    rw [jx_ex_succ] at hx
    unfold jx_one at hx
    rw [hM] at hx
    dsimp only at hx
    split at hx
    · cases hx
    · rename_i i hi
      have hdec := m7 _ _ hi
      split at hx
      · cases hx
      · rename_i F2 hdo
        obtain ⟨pc2, lo2, st2, h2⟩ := F2
        have g1 := jx_do_grow hdo
        have g2 := jx_grow _ _ _ _ _ _ hx
        dsimp only at g1 g2
        refine jx_s_all (T := T) (cd := cd) (rt := rt) (n0 := n0) (v0 := v0) hexec hb hown hok hml hini ⟨by omega, by omega⟩ hdec hl hrep hlf hn0 hv0 hdo ⟨by dsimp only; omega, by dsimp only; omega⟩ (fun H1 ls1 locs1 hr1 hl1 hf1 => ?_)
        exact ih d mi pc2 lo2 st2 h2 hf a hx p l e R s m args below meth c H1 locs1 Q own nL rt cd hd n0 v0 ls1 hM hexec hb hml hown henv hini hRf hRl hRc hRs hr1 hl1 hf1 (by omega) (by omega) hthr
      · rename_i mc as r hdo
        obtain ⟨k, hw, hcall⟩ := jx_do_call hdo
        split at hx
        · rename_i d2 own2 nL2 rt2 cd2 hd2 hM2
          split at hx
          · rename_i hlen
            split at hx
            · rename_i h2 v2 hrun
              have g1 := jx_grow _ _ _ _ _ _ hrun
              have g2 := jx_grow _ _ _ _ _ _ hx
              dsimp only at g1 g2
              obtain ⟨w1, w2, w3, w4, w5, w6, w7, w8⟩ := hm _ _ _ _ _ _ hM2
              have hMet := jx_met (T := T) (cl := cl) (G := G) (H0 := H0) hm (jx_sound hm f) hM2 hlen.1 hrun l
              have hw2 : ((r.map (jx_v G)).map fun v => v.category).sum ≤ 8 := by rw [jx_cat_sum]; exact hw
              have hgo : va_Run p l e R s m args below meth c H locs (h.length - n0) (jx_vol T h - v0) (h2.length - h.length) (jx_vol T h2 - jx_vol T h) (F0 m pc ls (st.map (jx_v G))) (r.map (jx_v G)) (jx_Q G cl H0 h2 v2 (as.map (jx_v G)).toArray) (jx_fre T G) := by
                rcases hcall with ⟨rfl, n, hcs, hn, rfl⟩ | ⟨n, g, a, ci, bs, rfl, hn, rfl, hci, hg, hk⟩
                · obtain ⟨len, hd0, hln⟩ := hdec
                  obtain rfl := hln rfl
                  exact jx_runS hexec hb hml hown hws (w1 hlen.2) (hcok.1 _ _ _ _ hcs) hMet rfl rfl (by show d2 + 8 + 1 ≤ R.frames; omega) (by show 8 + (nL2 + 11) + (100 * d2 + 120) ≤ R.locals; omega) ⟨jx_P.blind, fun U hU hW => ⟨rfl, by rw [hU]; exact hrep, henv.warm hW⟩⟩ (by rw [List.length_map]; exact hn) hl.2.1 (by rw [List.map_append, List.map_reverse]) hw2 hd0 ⟨by omega, by omega⟩
                · obtain ⟨len, hd0, hln⟩ := hdec
                  obtain ⟨r1, cell, q1, q2, q3, q4⟩ := jx_cls_at hok.2.1 hok.2.2.2.2.1 hrep hci
                  rcases hk with ⟨rfl, hcv⟩ | ⟨rfl, hcv, hbg⟩
                  · obtain rfl := hln rfl
                    obtain ⟨r2, e1, e2⟩ := hcok.2.1 _ _ _ _ _ _ hcv hg
                    cases q1.symm.trans e1
                    exact jx_runV (b := jx_mu G a) (As := bs.map (jx_v G)) hexec hb hml hown hws (w1 hlen.2) e2 hMet rfl rfl (by show d2 + 8 + 1 ≤ R.frames; omega) (by show 8 + (nL2 + 11) + (100 * d2 + 120) ≤ R.locals; omega) ⟨jx_P.blind, ⟨cell, q2, q3, q4⟩, fun U hU hW => ⟨rfl, by rw [hU]; exact hrep, henv.warm hW⟩⟩ (by rw [List.length_map]; exact hn) hl.2.1 (by rw [List.map_append, List.map_reverse]; rfl) hw2 hd0 ⟨by omega, by omega⟩
                  · obtain rfl := hln rfl
                    obtain ⟨r2, e1, e2⟩ := hcok.2.2 _ _ _ _ _ _ hcv hg
                    cases q1.symm.trans e1
                    have hci0 : ci < G.2.2.2.2.2 := jx_cls_in hrep hci hbg
                    exact jx_runI (b := jx_mu G a) (As := bs.map (jx_v G)) hexec hb hml hown hws (w1 hlen.2) (hok.2.1 _ _ hci0 q1).1.2 e2 w6 hMet rfl rfl (by show d2 + 8 + 1 ≤ R.frames; omega) (by show 8 + (nL2 + 11) + (100 * d2 + 120) ≤ R.locals; omega) ⟨jx_P.blind, ⟨cell, q2, q3, q4⟩, fun U hU hW => ⟨rfl, by rw [hU]; exact hrep, henv.warm hW⟩⟩ (by rw [List.length_map]; exact hn) hl.2.1 (by rw [List.map_append, List.map_reverse]; rfl) hw2 hd0 ⟨by omega, by omega⟩
              intro T0 hT0 X
              obtain ⟨v3, st₀, t, T', L, h0, X', hL, e1, e2, ⟨ho, hrep2⟩, hst⟩ := hgo T0 hT0 X
              cases ho
              have hrest := ih (d2 + 1) mi (pc + 3) lo (v2.toList ++ r) h2 hf a hx p l e R s m args below meth c T'.heap (locs ++ L) Q own nL rt cd hd n0 v0 ls hM hexec hb hml hown henv hini hRf hRl hRc hRs (by rw [e1]; exact hrep2) hl
                (fun z hz => by
                  rcases List.mem_append.mp hz with hz | hz
                  · exact hlf z hz
                  · exact hL z hz) (by omega) (by omega) hthr
              have hc1 : h.length - n0 + (h2.length - h.length) = h2.length - n0 := by omega
              have hs1 : jx_vol T h - v0 + (jx_vol T h2 - jx_vol T h) = jx_vol T h2 - v0 := by omega
              have hstk : (v2.toList ++ r).map (jx_v G) = (v2.map (jx_v G)).toList ++ r.map (jx_v G) := by cases v2 <;> simp
              rw [hstk] at hrest
              obtain ⟨t2, a1, b1⟩ := W.cs hc1 hs1 hrest T' rfl X'
              exact ⟨t2, hst t2 a1, b1⟩
            · rename_i h2 a2 hrun
              split at hx
              · split at hx
                · rename_i hh
                  rw [m8] at hh
                  cases hh
                · cases hx
              · cases hx
            · cases hx
          · cases hx
        · cases hx
      · cases hx
      · rename_i a2 h2 hdo
        cases hx
        obtain ⟨k, ic, ci, rfl, hxc, rfl, h3, h4, h7, hbig, rfl, rfl⟩ := jx_do_throw hdo
        obtain ⟨len, hd0, hln⟩ := hdec
        obtain rfl := hln rfl
        obtain ⟨l3, hd3, hl3⟩ := m7 _ _ h3
        obtain rfl := hl3 rfl
        obtain ⟨l4, hd4, hl4⟩ := m7 _ _ h4
        obtain rfl := hl4 rfl
        obtain ⟨l7, hd7, hl7⟩ := m7 _ _ h7
        obtain rfl := hl7 rfl
        exact hthr H ls locs pc h hrep hlf hl.2.1 hn0 hv0 ⟨k, ic, ci, hxc, hd0, hd3, hd4, hd7, hbig, rfl, rfl⟩
end JXTS
