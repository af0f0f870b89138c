/-! ===== the law's own frame ===== -/
section JXSW
variable {p : Program} {l : Launch} {e : Env} {R : Room} {s : State} {m : MethodId} {args : Array Value} {below : List Frame} {meth : Method} {c : Code} {H : Heap} {locs : List Loc} {cells slots : Nat}
variable {y : MethodName} {bytes cc : ByteArray} {maxL nL mc ms n k : Nat} {ret : Option FieldType} {hh : List (Nat × Nat × Nat × Nat)} {WS : List Cond} {rm : Room} {Pc : Array Value → State → Prop} {Qc : Array Value → State → Outcome → State → Prop} {free : Addr → Prop} {own : String} {As rest : List Value} {pc : Nat} {ls : Array Slot} {st : List Value}
theorem jx_runSW (hexec : p.tables.exec = Jvm.exec) (hb : c.code = cc) (hml : c.maxLocals = nL) (hown : s.vm.findClass own = some m.cls) (hws : jx_ws WS s) (hcode : Cond.codeWith y bytes maxL ret hh ∈ WS) (h1 : jx_w (.methodLink own k y) s) (h2 : jx_w (.static y) s) (h3 : jx_w (.initialized y.cls) s) (h4 : jx_nmh y n) (hM : Met l y (.codeWith y bytes maxL ret hh :: WS) rm Pc Qc mc ms free)
    (hrc : rm.cells = mc) (hrs : rm.slots = ms) (hfr : rm.frames + 1 ≤ R.frames) (hlo : 8 + (maxL + 11) + rm.locals ≤ R.locals) (hp : PreS s H Pc As) (hn : As.length = n) (hsize : ls.size = nL) (hstack : st = As.reverse ++ rest) (hW : (rest.map fun v => v.category).sum ≤ 8) (hdg : decode cc pc = .ok (.invokestatic k, 3)) (hf : cells + mc ≤ R.cells ∧ slots + ms ≤ R.slots) :
    va_Run p l e R s m args below meth c H locs cells slots mc ms (F0 m pc ls st) rest (Qc As.toArray) free := by
  have hws2 : ∀ w ∈ Cond.codeWith y bytes maxL ret hh :: WS, ∀ (a' : Array Value) (U : State), s.WarmedH U.vm → w.before a' U = true := by
    intro w hw a' U hW
    rcases List.mem_cons.mp hw with rfl | h
    · exact ((hws _ hcode).2.warm hW (hws _ hcode).1) a'
    · exact ((hws w h).2.warm hW (hws w h).1) a'
  have hK : Back l R p e below s args y 3 8 (PreOf R mc ms Pc) (PostOf Qc mc ms free) := va_backW (hh := hh) (bytes := bytes) (maxL := maxL) (ret := ret) hM hp.1 hrc hrs hfr hlo hws2 List.mem_cons_self (fun a' U hW => (h3.warm hW rfl) a')
  obtain ⟨mk, methM, cM, hnamed, hmethM, -, -, -, -, -, -, hsigM⟩ := Cond.codeWith_spec ((hws _ hcode).2 args)
  have hstatic : methM.isStatic = true := Cond.static_spec hnamed hmethM (h2 args)
  obtain ⟨kP, hkP, -⟩ := className_of_methodNamed hnamed
  have hinitP : kP.init = .initialized := Cond.initialized_spec (findClass_of_methodNamed hnamed) hkP (h3 args)
  obtain ⟨n1, n2, n3⟩ := h4
  intro T hT X
  obtain ⟨vm₁, X₁, hstep₁⟩ := X.invokestatic hexec hown (h1 args) hnamed hmethM hstatic hkP hinitP ⟨n1, n2⟩ (g := F0 m pc ls st) rfl (argsL := As) (rest := rest) (hn.trans (jx_len_of n3 _ hsigM)) hstack (by rw [hb]; exact hdg)
  obtain ⟨v, ⟨U', l2, c2, s2⟩, X', ⟨g', mk', t, L, e1, e2, hq, f1, hL, f2, f3⟩, hsteps⟩ := hK m meth c ⟨T.setVm vm₁, locs, cells, slots⟩ { F0 m pc ls st with stack := rest } (.invokestatic k) mk As.toArray X₁ rfl (hsize.trans hml.symm) (by rw [hb]; exact hdg) (by show 2 * 0 + (rest.map fun v => v.category).sum ≤ 8; omega) (X₁.named hnamed) ⟨hf.1, hf.2, hp.2 (T.setVm vm₁) hT X₁.warmed⟩
  dsimp only [Pt.U, Pt.locs, Pt.cells, Pt.slots] at X' e1 e2 f1 f2 f3 hsteps
  subst f1; subst f2; subst f3
  exact ⟨v, (T.setVm vm₁).calling g' mk' As.toArray, t, U', L, hT, X', hL, e1, e2, hq, fun target h => hstep₁ _ fun acts => by rw [doInvoke_state]; exact hsteps.trans h⟩
end JXSW
abbrev jx_Hs : Type := Nat → Option ((Nat × Nat × (Option FieldType × Bool) × (Nat → Option Instr) × List (Nat × Nat × Nat × Nat)) × MethodName × ByteArray)
/-- the law's callees -/
def jx_suL (T T0 : jx_T) (M : Nat → Option jx_M) (hs : jx_Hs) (D : Nat) : jx_Su := fun mc as h res => ∃ v, res.2 = .inl v ∧ (jx_suH T T0 M D mc as h res ∨
  ∃ (own nL : Nat) (rt : Option FieldType × Bool) (cd : Nat → Option Instr) (hh : List (Nat × Nat × Nat × Nat)) (nb : MethodName × ByteArray) (f : Nat), hs mc = some ((own, nL, rt, cd, hh), nb) ∧ (lg_sl as).length ≤ nL ∧ jx_u T (own, nL, rt, cd, fun pc ci => jx_hdl T own pc ci hh) (fun _ => none) (jx_suH T T0 M D) (fun hf v' => hf = res.1 ∧ v' = v) f (0, jx_in0 nL as, [], h))
theorem jx_suL_g {T T0 : jx_T} {M : Nat → Option jx_M} {hs : jx_Hs} {D : Nat} : jx_sg T (jx_suL T T0 M hs D) := by
  intro mc as h r hh
  obtain ⟨v, -, h1 | ⟨own, nL, rt, cd, hl, nb, f, -, -, h1⟩⟩ := hh
  · exact jx_suH_g _ _ _ _ h1
  · obtain ⟨hf, v2, ⟨rfl, -⟩, q2, q3⟩ := jx_u_end jx_suH_g _ _ h1
    exact ⟨q2, q3⟩
/-- the helpers, as they are -/
def jx_hok (ow : Nat → String) (WS : List Cond) (M : Nat → Option jx_M) (hs : jx_Hs) (xs : Nat → Option (Nat × Nat)) (own : Nat) (s : State) : Prop :=
  (∀ mc x, hs mc = some x → 1000 ≤ mc ∧ plainName x.2.1.cls = true ∧ x.2.1.cls = ow x.1.1 ∧ x.1.1 = own ∧ x.1.2.2.1.2 = false ∧ (∀ (pc : Nat) (i : Instr), x.1.2.2.2.1 pc = some i → ∃ len, decode x.2.2 pc = .ok (i, len) ∧ (jx_isSwitch i = false → len = jx_len i)) ∧ (∀ (pc : Nat) (i : Instr), x.1.2.2.2.1 pc = some i → jx_noSS i = true) ∧ Cond.codeWith x.2.1 x.2.2 x.1.2.1 x.1.2.2.1.1 x.1.2.2.2.2 ∈ WS ∧ x.1.2.1 ≤ 81) ∧
  ∀ k mc n, xs k = some (mc, n) → 1000 ≤ mc ∧ ∀ x, hs mc = some x → jx_w (.methodLink (ow own) k x.2.1) s ∧ jx_w (.static x.2.1) s ∧ jx_w (.initialized x.2.1.cls) s ∧ jx_nmh x.2.1 n
theorem jx_do_lt {T : jx_T} {cl : List vw_C} {ow : Nat → String} {N : Nat → MethodName × ByteArray} {s : State} {cd : Nat → Option Instr} {own pc : Nat} {rt : Option FieldType × Bool} {i : Instr} {lo : jx_L} {st : List Value} {h : jx_H} {mc : Nat} {as r : List Value} (hlt : ∀ own k : Nat, (∀ m2 n, jx_cs T own k = some (m2, n) → m2 < 1000) ∧ (∀ n g ci m2, jx_cv T own k = some (n, g) → g ci = some m2 → m2 < 1000) ∧ ∀ n g ci m2, jx_cp T own k = some (n, g) → g ci = some m2 → m2 < 1000) (hdo : jx_do T cd own pc rt i lo st h = some (.inr (.inl (mc, as, r)))) : mc < 1000 := by
  obtain ⟨k, hw, hcall⟩ := jx_do_call hdo
  rcases hcall with ⟨-, n, hcs, -⟩ | ⟨n, g, a, ci, bs, -, -, -, -, hg, hk⟩
  · exact (hlt own k).1 _ _ hcs
  · rcases hk with ⟨-, hcv⟩ | ⟨-, hcv, -⟩
    · exact (hlt own k).2.1 _ _ _ _ hcv hg
    · exact (hlt own k).2.2 _ _ _ _ hcv hg
section JXLW
variable {T T0 : jx_T} {cl : List vw_C} {ow : Nat → String} {G : jx_G} {s0 : State} {M : Nat → Option jx_M} {N : Nat → MethodName × ByteArray} {WS : List Cond} {l : Launch} {hs : jx_Hs}
variable {p : Program} {e : Env} {R : Room} {s : State} {m : MethodId} {args : Array Value} {below : List Frame} {meth : Method} {c : Code} {Q : State → Prop}
theorem jx_lawW (cx : jx_cx T T0 cl ow G s0 M N WS l) {own nL D : Nat} {rt : Option FieldType × Bool} {cd : Nat → Option Instr} {xs : Nat → Option (Nat × Nat)} {bytes : ByteArray} {Post : jx_H → Option Value → Prop} {n0 v0 : Nat} (hrt : rt.2 = false)
    (hlt : ∀ own k : Nat, (∀ m2 n, jx_cs T own k = some (m2, n) → m2 < 1000) ∧ (∀ n g ci m2, jx_cv T own k = some (n, g) → g ci = some m2 → m2 < 1000) ∧ ∀ n g ci m2, jx_cp T own k = some (n, g) → g ci = some m2 → m2 < 1000)
    (hexec : p.tables.exec = Jvm.exec) (hb : c.code = bytes) (hml : c.maxLocals = nL) (hown : s.vm.findClass (ow own) = some m.cls) (hen : jx_en2 T T0 cl ow G s0 N WS own s) (hhk : jx_hok ow WS M hs xs own s) (hR : D + 10 ≤ R.frames ∧ 100 * D + 320 ≤ R.locals)
    (hcd : ∀ (pc : Nat) (i : Instr), cd pc = some i → ∃ len, decode bytes pc = .ok (i, len) ∧ (jx_isSwitch i = false → len = jx_len i))
    (hPost : ∀ (hf : jx_H) (v : Option Value), Post hf v → hf.length - n0 ≤ R.cells ∧ jx_vol T hf - v0 ≤ R.slots)
    (hret : ∀ (hf : jx_H) (v : Option Value) (H1 : Heap) (ls1 : Array Slot) (locs1 : List Loc) (pc1 : Nat) (st1 : List Value) (i1 : Instr), Post hf v → jx_rep G cl s0.heap hf H1 → (∀ z ∈ locs1, jx_fre T G z.base) → decode bytes pc1 = .ok (i1, 1) → jx_rets rt.1 i1 st1 v →
      W p l e R s m args below meth c H1 locs1 (hf.length - n0) (jx_vol T hf - v0) Q (F0 m pc1 ls1 (st1.map (jx_v G)))) :
    ∀ (f pc : Nat) (lo : jx_L) (st : List Value) (h : jx_H) (H : Heap) (locs : List Loc) (ls : Array Slot), jx_u T (own, nL, rt, cd, fun _ _ => none) xs (jx_suL T T0 M hs D) Post f (pc, lo, st, h) → jx_rep G cl s0.heap h H → jx_ls G nL ls lo → (∀ z ∈ locs, jx_fre T G z.base) → n0 ≤ h.length → v0 ≤ jx_vol T h →
      W p l e R s m args below meth c H locs (h.length - n0) (jx_vol T h - v0) Q (F0 m pc ls (st.map (jx_v G))) := by
  obtain ⟨henv, henv0, hW0, hpv⟩ := id hen
  obtain ⟨hm, hG, hwr, hx, hxo, hl9⟩ := id cx
  refine jx_soundU (T := T) (cl := cl) (ow := ow) (G := G) (H0 := s0.heap) (rt := rt) (bytes := bytes) (xs := xs) (n0 := n0) (v0 := v0) jx_suL_g hexec hb hml hown henv.1 (fun h9 => by rw [hrt] at h9; cases h9) ⟨by omega, by omega⟩ hcd hPost hret ?_ ?_
  · intro pc i lo st g mc as r g2 v9 H locs ls hi hdo hsu hrep hl hlf hn0 hv0 hRc hRs kk
    obtain ⟨v, e0, hsu⟩ := hsu
    cases e0
    rcases hdo with hxc | hdo
    · unfold jx_xcall at hxc
      split at hxc
      · rename_i k
        split at hxc
        · rename_i m2 n hxs
          split at hxc
          · rename_i as2 r2 hargs
            split at hxc
            · rename_i hw
              cases hxc
              obtain ⟨hn, rfl⟩ := jx_args_some hargs
              obtain ⟨h1000, hwords⟩ := hhk.2 _ _ _ hxs
              rcases hsu with ⟨_, _, _, _, _, _, _, -, -, hbad, -⟩ | ⟨own2, nL2, rt2, cd2, hh2, nb, f2, hhs, hlen2, hrun2⟩
              · omega
              · obtain ⟨x0, x1, x2, x3, x4, x5, x6, x7, x8⟩ := hhk.1 _ _ hhs
                obtain ⟨k1, k2, k3, k4⟩ := hwords _ hhs
                dsimp only at x0 x1 x2 x3 x4 x5 x6 x7 x8 k1 k2 k3 k4
                subst x3
                have g1 := jx_suL_g (T := T) (T0 := T0) (M := M) (hs := hs) (D := D) _ as g (g2, .inl v9) ⟨v9, rfl, Or.inr ⟨_, nL2, rt2, cd2, hh2, nb, f2, hhs, hlen2, hrun2⟩⟩
                dsimp only at g1
                have hMet := jx_metH (l := l) cx (y := nb.1) (bytes := nb.2) x1 x2 x4 x5 x6 hlen2 hrun2
                have hw2 : ((r.map (jx_v G)).map fun v => v.category).sum ≤ 8 := by rw [jx_cat_sum]; exact hw
                obtain ⟨len, hd0, hln⟩ := hcd _ _ hi
                obtain rfl := hln rfl
                have hc1 : g.length - n0 + (g2.length - g.length) = g2.length - n0 := by
                  clear hln hd0
                  omega
                have hs1 : jx_vol T g - v0 + (jx_vol T g2 - jx_vol T g) = jx_vol T g2 - v0 := by
                  clear hln hd0
                  omega
                have hgo := jx_runSW (l := l) (e := e) (R := R) (args := args) (below := below) (meth := meth) (H := H) (locs := locs) (cells := g.length - n0) (slots := jx_vol T g - v0) (As := as.map (jx_v G)) (rest := r.map (jx_v G)) (st := (as.reverse ++ r).map (jx_v G)) (ls := ls) hexec hb hml hown henv.2.2 x7 k1 k2 k3 k4 hMet rfl rfl (by show D + 1 + 8 + 1 ≤ R.frames; omega) (by show 8 + (nL2 + 11) + (100 * (D + 1) + 120) ≤ R.locals; omega) ⟨jx_P2.blind, fun U hU hW => ⟨rfl, by rw [hU]; exact hrep, hen.warm hW⟩⟩ (by rw [List.length_map]; exact hn) hl.2.1 (by rw [List.map_append, List.map_reverse]) hw2 hd0 ⟨by rw [hc1]; exact hRc, by rw [hs1]; exact hRs⟩
                intro T1 hT1 X
                obtain ⟨v3, st₀, t, T', L, h0, X', hL, e1, e2, ⟨ho, hrep2⟩, hst⟩ := hgo T1 hT1 X
                cases ho
                have hrest := kk T'.heap (locs ++ L) (by rw [e1]; exact hrep2)
                  (fun z hz => by
                    rcases List.mem_append.mp hz with hz | hz
                    · exact hlf z hz
                    · exact hL z hz)
                have hstk : (v9.toList ++ r).map (jx_v G) = (v9.map (jx_v G)).toList ++ r.map (jx_v G) := by cases v9 <;> simp
                rw [hstk] at hrest
                obtain ⟨t2, a1, b1⟩ := W.cs hc1 hs1 hrest T' rfl X'
                exact ⟨t2, hst t2 a1, b1⟩
            · cases hxc
          · cases hxc
        · cases hxc
      · cases hxc
    · have hlt9 := jx_do_lt (cl := cl) (ow := ow) (N := N) (s := s) hlt hdo
      rcases hsu with ⟨f9, d9, own9, n9, rt9, cd9, hd9, hM9, hlen9, -, hdD, hr9⟩ | ⟨own2, nL2, rt2, cd2, hh2, nb, f2, hhs, -⟩
      · rcases hr9 with ⟨v, e1, hr9⟩ | ⟨ci, e1, -⟩
        · cases e1
          exact jx_callW (d2 := d9) hm hexec hb hml hown henv (by omega) (by omega) (hcd _ _ hi) hdo hM9 hlen9 hlt9 hr9 hrep hl hlf hn0 hv0 hRc hRs kk
        · cases e1
      · have := (hhk.1 _ _ hhs).1
        omega
  · intro pc i lo st g mc as r g2 a ci2 pc2 H locs ls hi hdo hsu hcls hhd
    cases hhd
end JXLW
