/-! ===== the contract of a method that throws ===== -/
/-- the atoms that an exception's making asks, moved from the law's entry to a callee's -/
def jx_mv : Cond → Bool
  | .castable _ _ => true
  | .declares _ => true
  | .laysStatic _ _ _ => true
  | .isRef (.static c n d) => decide (c = "java/lang/Throwable" ∧ (n, d) ∈ [("UNASSIGNED_STACK", "[Ljava/lang/StackTraceElement;"), ("SUPPRESSED_SENTINEL", "Ljava/util/List;")])
  | w => goodWord w
theorem jx_mv_move {G : jx_G} {s0 s : State} {A args : Array Value} (hG : G.1 = s0.heap.size) (hW : s0.WarmedH s.vm) (hq : ∀ q : Nat, q < G.1 → s.heap[q]? = s0.heap[q]?) (hx : jx_xt G s0.heap s0) {w : Cond} (hw : jx_mv w = true) (h : w.before A s0 = true) : w.before args s = true := by
  have gd : goodWord w = true → w.before args s = true := fun hg => word_at hW (good_of_word hg) h
  cases w <;> first | exact gd hw | skip
  case castable a b => exact va_Nw.use rfl (va_Nw.warmC hW (va_Nw.of rfl h))
  case declares a => exact va_Nw.use rfl (va_Nw.warmD hW (va_Nw.of rfl h))
  case laysStatic a b d => exact jx_lays_of rfl hG hW.alike hq h
  case isRef t =>
    cases t <;> first | exact gd hw | skip
    rename_i c n d
    obtain ⟨rfl, hm⟩ := of_decide_eq_true hw
    exact jx_ref_of hq ((hx.warm hW) (n, d) hm)
/-- what is known of the exceptions at the law's entry -/
def jx_xok (T : jx_T) (cl : List vw_C) (ow : Nat → String) (G : jx_G) (s0 : State) : Prop := ∀ own k ic ci : Nat, jx_xc T own k = some (ic, ci) → ∃ (cls : String) (F : u_T) (names : List String), cl[ci]? = some (cls, F, 0) ∧ ci < G.2.2.2.2.2 ∧ jx_ns T ci = 6 ∧ Bundle.fit cls = true ∧ (∀ n ∈ names, Bundle.fit n = true) ∧ names.length ≤ 2 ∧
  (∀ a ∈ Bundle.ownAtoms0 (ow own) ic cls names, jx_mv a = true ∧ a.before #[] s0 = true) ∧ jx_w (.classLink (ow own) k cls) s0 ∧ jx_w (.initialized cls) s0
section JXMT
variable {T : jx_T} {cl : List vw_C} {ow : Nat → String} {G : jx_G} {M : Nat → Option jx_M} {N : Nat → MethodName × ByteArray} {WS : List Cond} {s0 : State}
def jx_PT (T : jx_T) (cl : List vw_C) (ow : Nat → String) (G : jx_G) (s0 : State) (N : Nat → MethodName × ByteArray) (WS : List Cond) (vs : List Value) (h : jx_H) : Array Value → State → Prop := fun a U => jx_P T cl ow G s0.heap N WS vs h a U ∧ s0.WarmedH U.vm
def jx_QT (G : jx_G) (cl : List vw_C) (H0 : Heap) (h : jx_H) (ci : Nat) : Array Value → State → Outcome → State → Prop := fun _ st o t => o = .threw (jx_mu G h.length) ∧ jx_rep G cl H0 (h ++ [.inr (ci, [])]) t.heap ∧ st.WarmedH t.vm ∧ st.sameButNew ({ t with vm := st.vm } : State) [] 1 6
theorem jx_metT (hm : jx_mok M N WS ow) (hG : G.1 = s0.heap.size) (hwr : ∀ a, jx_wr T a = false) (hx : jx_xt G s0.heap s0) (hxo : jx_xok T cl ow G s0) {f d mi : Nat} {own nL : Nat} {rt : Option FieldType × Bool} {cd : Nat → Option Instr} {hd : Nat → Nat → Option Nat} (hM : M mi = some (own, nL, rt, cd, hd)) {as : List Value} {h : jx_H} {ci a : Nat} (hs6 : jx_ns T ci = 6) (hlen : (lg_sl as).length ≤ nL)
    (hrun : jx_ex T M f d mi (0, jx_in0 nL as, [], h) = some (h ++ [.inr (ci, [])], .inr a)) (l : Launch) (hl : l.stackTraces = false) :
    MetFree l (N mi).1 (headSpec (.code (N mi).1 (N mi).2 nL rt.1 :: WS) (jx_rm d 1 6)) (jx_PT T cl ow G s0 N WS as h) (fun _ _ _ _ _ => True) (jx_QT G cl s0.heap h ci) := by
  obtain ⟨m1, m2, m3, m4, m5, m6, m7, m8⟩ := hm _ _ _ _ _ _ hM
  refine MetFree.of_bodyS (code := (N mi).2) (maxLocals := nL) (ret := rt.1) m2 ?_ ?_
  · intro args s m hh hn
    obtain ⟨meth, c, h1, h2, h3, h4, h5, h6, -, -⟩ := Cond.code_spec hn (atoms_spec (ws := .code (N mi).1 (N mi).2 nL rt.1 :: WS) hh _ List.mem_cons_self)
    exact ⟨meth, c, h1, h2, h3, h4, h5, h6⟩
  · intro p e s m args below meth c s₁ B hml hP _
    obtain ⟨⟨rfl, hrep, henv⟩, hW0⟩ := hP
    have hown : s.vm.findClass (ow own) = some m.cls := by rw [← m3]; exact findClass_of_methodNamed B.named
    have hcode := atoms_spec (ws := .code (N mi).1 (N mi).2 nL rt.1 :: WS) B.pre _ List.mem_cons_self
    have hnoh := B.noHandlers hcode
    have htr : e.platform.stackTraces = false := by rw [B.admits.platform]; exact hl
    have hvol : ∀ ci', jx_ns T ci' = 6 → jx_vol T (h ++ [.inr (ci', [])]) = jx_vol T h + 6 := fun ci' hc => by rw [jx_vol_push]; exact congrArg _ hc
    have hgrow := jx_grow _ _ _ _ _ _ hrun
    have key : W p l e (headSpec (.code (N mi).1 (N mi).2 nL rt.1 :: WS) (jx_rm d 1 6)).room s m (as.map (jx_v G)).toArray below meth c s.heap [] 0 0 (fun t => t.status = .running ∧ Ended t below (.threw (jx_mu G h.length)) ∧ jx_QT G cl s0.heap h ci (as.map (jx_v G)).toArray s (.threw (jx_mu G h.length)) t) (entryFrame m (as.map (jx_v G)).toArray nL) := by
      rw [lg_entry_eq]
      refine W.cs (cells' := h.length - h.length) (slots' := jx_vol T h - jx_vol T h) (Nat.sub_self _).symm (Nat.sub_self _).symm ?_
      refine jx_soundT (cl := cl) (ow := ow) (G := G) (H0 := s0.heap) (WS := WS) hm f d mi 0 (jx_in0 nL as) [] h _ a hrun p l e _ s m _ below meth c s.heap [] _ own nL rt cd hd h.length (jx_vol T h) _ hM B.exec B.bytes hml hown henv ?_ (Nat.le_refl _) (Nat.le_refl _) ?_ ?_ hrep (jx_in0_ls G as hlen) (fun z hz => by cases hz) (Nat.le_refl _) (Nat.le_refl _) ?_
      · intro hi
        rw [(name_of_methodNamed B.named B.method).1]
        exact m5 hi
      · show (h ++ [_]).length - h.length ≤ 1
        simp
      · show jx_vol T (h ++ [_]) - jx_vol T h ≤ 6
        rw [hvol ci hs6]
        omega
      · intro H1 ls1 locs1 pc1 h1 hr1 hf1 hsz hn1 hv1 ht
        obtain ⟨k, ic, ci', hxc, d0, d3, d4, d7, hbig, ha, hfe⟩ := ht
        obtain ⟨e1, e2⟩ := List.append_inj' hfe rfl
        subst e1
        cases e2
        have hl0 : locs1 = [] := by
          cases locs1 with
          | nil => rfl
          | cons z zs =>
            obtain ⟨b, hb1, -⟩ := hf1 z List.mem_cons_self
            rw [hwr] at hb1
            cases hb1
        subst hl0
        obtain ⟨cls, F, names, c1, c2, c3, c4, c5, c6, c7, c8, c9⟩ := hxo _ _ _ _ hxc
        have hq : ∀ q : Nat, q < G.1 → s.heap[q]? = s0.heap[q]? := hrep.2.2
        have hthr := jx_s_throw (p := p) (l := l) (e := e) (R := (headSpec (.code (N mi).1 (N mi).2 nL rt.1 :: WS) (jx_rm d 1 6)).room) (s := s) (m := m) (args := (as.map (jx_v G)).toArray) (below := below) (meth := meth) (c := c) (ls := ls1) (names := names) (cls := cls) B.exec B.bytes hml B.notSynchronized hnoh hown htr c4 c5
          (fun x hx' => jx_mv_move hG hW0 hq hx (c7 x hx').1 (c7 x hx').2) (c8.warm hW0 rfl _) (c9.warm hW0 rfl _) d0 d3 d4 d7 (by show names.length + 3 < d + 8; omega) (by show 13 * (names.length + 1) + 50 ≤ 100 * d + 120; omega) (Nat.le_refl _) (Nat.le_refl _) hsz
        intro T1 hT1 X1
        have X0 : Stand p l e (headSpec (.code (N mi).1 (N mi).2 nL rt.1 :: WS) (jx_rm d 1 6)).room s m (as.map (jx_v G)).toArray below meth c T1 [] 0 0 := by
          have := X1
          rw [Nat.sub_self, Nat.sub_self] at this
          exact this
        have hh : T1.heap = s.heap := by
          have h5 := State.sameBut_nil.mp X0.same.sameBut
          have h6 : (T1.setVm s.vm).heap = (s.setFrames (T1.setVm s.vm).frames).heap := congrArg State.heap h5
          exact h6
        obtain ⟨t, a1, a2, a3, a4, a5, ce, a6, a7⟩ := hthr T1 hh X0
        have hmu : s.heap.size = jx_mu G h.length := by rw [jx_mu_in G hbig]; exact hrep.1
        refine ⟨t, a1, a2, by rw [← hmu]; exact a3, rfl, ?_, a4, a5⟩
        have hold : ∀ q : Nat, q < s.heap.size → t.heap[q]? = s.heap[q]? := by
          intro q hq'
          have := State.sameButNew.old_cell a5 (a := q) (c := s.heap[q]) (Array.getElem?_eq_getElem hq')
          rw [Array.getElem?_eq_getElem hq']
          exact this
        have hlt := (Array.getElem?_eq_some_iff.mp a6).1
        have hle : t.heap.size ≤ s.heap.size + 1 := a5.2.2.1
        refine hrep.push (by omega) ⟨c2, (cls, F, 0), c1, rfl, ce, ?_, ?_, a7.vm, fun j hj => absurd hj (Nat.not_lt_zero j)⟩ hold
        · rw [← hrep.1]
          exact a6
        · have h6 := a7.cls
          obtain ⟨hKn, -⟩ := henv.1.2.1 ci (cls, F, 0) c2 c1
          exact Option.some.inj (h6.symm.trans hKn.2.1)
    have hh0 : s₁.heap = s.heap := by rw [B.state]; rfl
    obtain ⟨t, a1, a2, a3, a4⟩ := key s₁ hh0 (Stand.of_body B)
    exact ⟨t, _, a1, a2, a3, a4⟩
end JXMT
