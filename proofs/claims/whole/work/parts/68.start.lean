def R_law : String := "PickDeskLaw"
def lw_P (b : Addr) (xs : List Int32) (args : Array Value) (s : State) : Prop := args = #[.ref b] ∧ s.IntsAt b xs ∧ xs.length ≤ 1024 ∧ (Jvm.Cond.and given_1 narrow_1).before args s = true
def lw_Q (_ : Array Value) (s : State) (o : Outcome) (t : State) : Prop := o = .returned (some (.int 1)) ∧ Framed s o t [] 601024 7293034
def lw_Z (below : List Frame) (a : Array Value) (s : State) : State → Prop := fun t => ∃ o, t.status = .running ∧ Ended t below o ∧ lw_Q a s o t
/-- the law's own end, with 1 on the stack, nothing written that was there before, its room as the claim has it -/
theorem lw_ret {p : Program} {l : Launch} {e : Env} {s : State} {m : MethodId} {below : List Frame} {meth : Method} {c : Code} {b : Nat} (hx : p.tables.exec = Jvm.exec) (hb : c.code = code) (hr : meth.sig.returnType = ret) (hlocks : meth.locks = false) {pc : Nat} {H : Heap} {ls : Array Slot} (hdg : decode code pc = .ok (.ireturn, 1)) : W p l e room_1 s m #[Value.ref b] below meth c H [] 601024 7293034 (lw_Z below #[Value.ref b] s) (F0 m pc ls [.int 1]) := by
  intro T hT X
  obtain ⟨fs, hret, hrun, hended, hW, hframe⟩ := X.leave (v := some (.int 1)) (hlocks := hlocks) (fun h => by rw [hr] at h; cases h)
  have hmeth' : T.vm.method? m = some meth := X.method'
  refine ⟨T.setFrames fs, ?_, .returned (some (.int 1)), hrun, hended, rfl, ⟨_, rfl⟩, hW, hframe⟩
  jvm_step X.here [X.here.top, hx, hb, hdg, hmeth', hr, ret, narrow_b1]
  (try refine ⟨rfl, ?_⟩); (try refine ⟨rfl, ?_⟩)
  first | (intro acts; rw [hret _ acts rfl rfl rfl]) | rw [hret _ _ rfl rfl rfl]
  exact Steps.refl _
/-- what holds at the law's entry: the machine, the code, the tables' words (any of lw_tbl by 'hts w (by decide +kernel)'), the script of L ints xs at the cell b, what the Statement gives of the start (any of its parts by flat_of_before) -/
def lw_At (p : Program) (s : State) (m : MethodId) (meth : Method) (c : Code) (b L : Nat) (xs : Nat → Int32) : Prop :=
  p.tables.exec = Jvm.exec ∧ c.code = code ∧ meth.sig.returnType = ret ∧ c.maxLocals = 7 ∧ s.vm.findClass R_law = some m.cls ∧ (∀ w ∈ lw_tbl, w.before #[Value.ref b] s = true) ∧ va_X b L xs s s.heap ∧ b < s.heap.size ∧ meth.locks = false ∧ (Jvm.Cond.and given_1 narrow_1).before #[Value.ref b] s = true
/-! ===== the law's run on the abstract machine is all that is wanted ===== -/
abbrev jw_TT (L : Nat) (xs : Nat → Int32) : jx_T := jw_T (fun _ => true) L xs
abbrev jw_TF (L : Nat) (xs : Nat → Int32) : jx_T := jw_T (fun _ => false) L xs
abbrev jw_su (L : Nat) (xs : Nat → Int32) : jx_Su := jx_suL (jw_TT L xs) (jw_TF L xs) jw_M jw_hs 800
abbrev jw_Le : jx_M := (22, 7, (some .boolean, false), jw_cd cd_law, fun _ _ => none)
def jw_Po (L : Nat) (xs : Nat → Int32) (hf : jx_H) (v : Option Value) : Prop := v = some (.int 1) ∧ hf.length ≤ 601024 ∧ jx_vol (jw_TT L xs) hf ≤ 7293034
abbrev jw_U (L : Nat) (xs : Nat → Int32) (f : Nat) (F : jx_F) : Prop := jx_u (jw_TT L xs) jw_Le jw_xs (jw_su L xs) (jw_Po L xs) f F
def jw_run (L : Nat) (xs : Nat → Int32) : Prop := ∃ f : Nat, jw_U L xs f (0, jx_in0 7 [.ref (jx_big + 54)], [], [])
theorem jw_start {p : Program} {e : Env} {s : State} {m : MethodId} {below : List Frame} {meth : Method} {c : Code} (l : Launch) (hl : l.stackTraces = false) {b L : Nat} {xs : Nat → Int32} (C0 : lw_At p s m meth c b L xs) (hrun : ∀ xs2, jw_run L xs2) : W p l e room_1 s m #[Value.ref b] below meth c s.heap [] 0 0 (lw_Z below #[Value.ref b] s) (entryFrame m ([Value.ref b] : List Value).toArray 7) := by
  obtain ⟨hx, hb, hr, hml, hown, hts, hX, hbl, hlocks, hgv⟩ := C0
  have hp : jw_pre #[Value.ref b] s := flat_of_before _ hgv
  obtain ⟨G, xs2, g1, g2, cx, hen, hhk⟩ := jw_all hl hts hp hX
  obtain ⟨f, hu⟩ := hrun xs2
  have ev : [Value.ref b] = [Value.ref (jx_big + 54)].map (jx_v G) := by
    show [Value.ref b] = [Value.ref (jx_mu G (jx_big + 54))]
    rw [show jx_mu G (jx_big + 54) = G.2.1 54 from by unfold jx_mu; rw [if_neg (by omega)]; congr 1, g2]
  rw [ev, lg_entry_eq]
  refine W.cs (cells' := ([] : jx_H).length - 0) (slots' := jx_vol (jw_TT L xs2) [] - 0) rfl rfl ?_
  refine jx_lawW (T := jw_TT L xs2) (T0 := jw_TF L xs2) (cl := jw_cl) (ow := jw_ow) (G := G) (s0 := s) (M := jw_M) (N := jw_N) (WS := jw_WS) (hs := jw_hs) (D := 800) (rt := (some .boolean, false)) (cd := jw_cd cd_law) (xs := jw_xs) (bytes := code) (Post := jw_Po L xs2) (n0 := 0) (v0 := 0) cx rfl jw_lt hx hb hml hown hen hhk ⟨by decide, by decide⟩ (jw_chk_ok ck_law) ?_ ?_ f 0 (jx_in0 7 [.ref (jx_big + 54)]) [] [] s.heap [] _ hu ⟨g1.symm, fun a x hax => (by cases hax), fun q hq => rfl⟩ (jx_in0_ls G _ (by decide)) (fun z hz => by cases hz) (Nat.zero_le _) (Nat.zero_le _)
  · rintro hf v ⟨-, h1, h2⟩
    exact ⟨h1, h2⟩
  · rintro hf v H1 ls1 locs1 pc1 st1 i1 ⟨rfl, h1, h2⟩ hr1 hf1 hd1 hrs
    have e1 : i1 = .ireturn ∧ st1 = [.int 1] := by
      rcases hrs with ⟨q1, x, ty, q2, -, -, q3⟩ | ⟨-, x, -, -, q3⟩ | ⟨-, x, ty, -, -, q3, -, q4⟩ | ⟨-, -, q3, -⟩
      · cases q3
        exact ⟨q1, q2⟩
      · cases q3
      · cases q4
        cases q3
      · cases q3
    obtain ⟨rfl, rfl⟩ := e1
    refine va_forget (fun q hq => ?_) (W.widen h1 h2 (lw_ret hx hb hr hlocks hd1))
    obtain ⟨a, -, e⟩ := hf1 q hq
    rw [e, g1]
    omega
