/-! ===== a call whose callee throws, and the caller catches ===== -/
theorem jx_caught {tb : Tables} {e : Env} {s target : State} {g : JFrame} {c : Code} {below : List Frame} {a : Addr} {meth : Method} {pc : Nat} {vm' : Vm} (h : At s g.method c below) (hm : s.vm.method? g.method = some meth) (hc : meth.code = some c) (hfind : jx_fw e ((s.setTop g).pushFrame (.throwing a)) g a c.exceptionTable.toList (.found pc) vm')
    (hrest : Steps tb e below ((s.setVm vm').setTop { g with pc := pc, stack := [.ref a] }) target) : Steps tb e below ((s.setTop g).pushFrame (.throwing a)) target := by
  obtain ⟨hgo, hw⟩ := h.throwing a
  refine Steps.head hgo hw ?_
  rw [stepThread_throwing (frames_entered h.top _), jx_throw_step (s := (s.setTop g).pushFrame (.throwing a)) (meth := meth) (code := c) (by rw [Stand.throwing_vm]; exact hm) hc hfind]
  obtain ⟨g₀, hg⟩ := Option.isSome_iff_exists.mp h.top
  obtain ⟨r, hr⟩ := State.topJava?_eq_some.mp hg
  have hr' : (s.setVm vm').frames = .java g₀ :: r := hr
  rw [State.setTop_of_frames _ hr'] at hrest
  rw [State.setTop_of_frames _ hr, hr]
  have e1 : (((s.setFrames (.java g :: r)).pushFrame (.throwing a)).setVm vm').setFrames (.java { g with pc := pc, stack := [.ref a] } :: r) = (s.setVm vm').setFrames (.java { g with pc := pc, stack := [.ref a] } :: r) := by
    rw [State.pushFrame]
    show (((s.setFrames _).setFrames _).setFrames _).setVm vm' = (s.setFrames _).setVm vm'
    rw [State.setFrames_setFrames, State.setFrames_setFrames]
  show Steps tb e below ((((s.setFrames (.java g :: r)).pushFrame (.throwing a)).setVm vm').setFrames _) target
  rw [show ((Frame.java g₀ :: r).tail) = r from rfl, e1]
  exact hrest
/-- an entry of the table that the exception passes, or that takes it -/
def jx_en (own : String) (args : Array Value) (s : State) (pc cls : Nat) (b : Bool) (y : ExceptionTableEntry) : Prop := covers y pc = true ∧ y.catchType ≠ 0 ∧ ∃ (name : String) (cT : ClassId), (Cond.classLink own y.catchType name).before args s = true ∧ s.vm.findClass name = some cT ∧ s.vm.assignable cls cT = b
theorem jx_find {e : Env} {s : State} {args : Array Value} {f : JFrame} {a : Addr} {own : String} {cell : Cell} (hpl : e.platform.magicAccessors = ({} : Platform).magicAccessors) (hown : s.vm.findClass own = some f.method.cls) (hobj : cell.vm.isStatics = false) (hk : ∃ k, s.vm.classes[cell.cls]? = some k) (x : ExceptionTableEntry) (rest : List ExceptionTableEntry) (hx : jx_en own args s f.pc cell.cls true x) :
    ∀ (pre : List ExceptionTableEntry) (T : State), s.WarmedH T.vm → T.heap[a]? = some cell → (∀ y ∈ pre, jx_en own args s f.pc cell.cls false y) → ∃ vm', s.WarmedH vm' ∧ jx_fw e T f a (pre ++ x :: rest) (.found x.handlerPc) vm' := by
  intro pre
  induction pre with
  | nil =>
    intro T hW hcell _
    obtain ⟨h1, h2, name, cT, h3, h4, h5⟩ := hx
    obtain ⟨c', hc', hcl⟩ := Cond.classLink_spec hown h3 e.platform hpl
    cases h4.symm.trans hc'
    obtain ⟨g1, g2, g3⟩ := State.classEntry (e := e) hW hcl
    obtain ⟨_, _, _, kt, _, _, _, _, _, hkt, _, _⟩ := hcl.here
    obtain ⟨ks, hks⟩ := hk
    obtain ⟨ks', hks', -⟩ := g2.alike.2.2 _ _ hks
    obtain ⟨kt', hkt', -⟩ := g2.alike.2.2 _ _ hkt
    exact ⟨_, g2, jx_fw_yes h1 h2 g1 (by no_record) hcell (VmData.noStatics_of hobj) ⟨ks', hks'⟩ ⟨kt', hkt'⟩ (by rw [g2.alike.assignable]; exact h5)⟩
  | cons y pre ih =>
    intro T hW hcell hpre
    obtain ⟨h1, h2, name, cT, h3, h4, h5⟩ := hpre y List.mem_cons_self
    obtain ⟨c', hc', hcl⟩ := Cond.classLink_spec hown h3 e.platform hpl
    cases h4.symm.trans hc'
    obtain ⟨g1, g2, g3⟩ := State.classEntry (e := e) hW hcl
    obtain ⟨_, _, _, kt, _, _, _, _, _, hkt, _, _⟩ := hcl.here
    obtain ⟨ks, hks⟩ := id hk
    obtain ⟨ks', hks', -⟩ := g2.alike.2.2 _ _ hks
    obtain ⟨kt', hkt', -⟩ := g2.alike.2.2 _ _ hkt
    obtain ⟨vm'', w1, w2⟩ := ih (T.setVm _) g2 hcell (fun z hz => hpre z (List.mem_cons_of_mem _ hz))
    exact ⟨vm'', w1, jx_fw_no h1 h2 g1 (by no_record) hcell (VmData.noStatics_of hobj) ⟨ks', hks'⟩ ⟨kt', hkt'⟩ (by rw [g2.alike.assignable]; exact h5) w2⟩
section JXCT
variable {p : Program} {l : Launch} {e : Env} {R : Room} {s : State} {m : MethodId} {args : Array Value} {below : List Frame} {meth : Method} {c : Code} {H : Heap} {locs : List Loc} {cells slots : Nat} {Q : State → Prop}
theorem jx_callVT {T : State} (X : Stand p l e R s m args below meth c T locs cells slots) (hexec : p.tables.exec = Jvm.exec) {own C : String} {index : Nat} {y : MethodName} {bytes : ByteArray} {maxL : Nat} {ret : Option FieldType}
    (hown : s.vm.findClass own = some m.cls) (hlink : (Cond.methodLink own index y).before args s = true) (hinst : (Cond.instanceMethod y).before args s = true) (hsel : (Cond.selects C y y).before args s = true)
    (hcode : (Cond.code y bytes maxL ret).before args s = true) (hini : (Cond.initialized y.cls).before args s = true) (hy : y.cls ≠ "java/lang/invoke/MethodHandle" ∧ y.cls ≠ "java/lang/invoke/VarHandle")
    {S : Spec} {P : Array Value → State → Prop} {Qt : Array Value → State → Outcome → State → Prop} {x : Addr} {k n : Nat} (hM : MetFree l y S P (fun _ _ _ _ _ => True) Qt)
    (hframes : S.room.frames + 1 ≤ R.frames) (hlocals : 8 + (maxL + 11) + S.room.locals ≤ R.locals) (hfc : cells + S.room.cells ≤ R.cells) (hfs : slots + S.room.slots ≤ R.slots) (hS : ∀ a' U, s.WarmedH U.vm → S.pre.before a' U = true)
    {b : Addr} {cellB : Cell} (hcell : T.heap[b]? = some cellB) (hobj : cellB.vm.isStatics = false) (hcls : s.vm.findClass C = some cellB.cls)
    {g : JFrame} (hg : g.method = m) (hsize : g.locals.size = c.maxLocals) {argsL rest : List Value} (hlen : ∀ sig, parseMethodDescriptor y.desc = some sig → argsL.length = sig.parameters.length)
    (hstack : g.stack = argsL.reverse ++ .ref b :: rest) (hW : 2 * g.monitorRoom + (rest.map fun v => v.category).sum ≤ 8) (hdg : decode c.code g.pc = .ok (.invokevirtual index, 3))
    (hP : ∀ U : State, U.heap = T.heap → s.WarmedH U.vm → P (Value.ref b :: argsL).toArray U)
    (hQ : ∀ a st o t, Qt a st o t → o = .threw x ∧ st.WarmedH t.vm ∧ st.sameButNew ({ t with vm := st.vm } : State) [] k n) :
    ∃ (st t U' : State), Stand p l e R s m args below meth c U' locs (cells + k) (slots + n) ∧ U'.heap = t.heap ∧ Qt (Value.ref b :: argsL).toArray st (.threw x) t ∧
      ∀ target, Steps p.tables e below ((U'.setTop { g with stack := rest }).pushFrame (.throwing x)) target → Steps p.tables e below (T.setTop g) target := by
  obtain ⟨mk, methM, hnamed, hmethM, hstM, habM⟩ := Cond.instanceMethod_spec hinst
  obtain ⟨methM', cM, hmethM', -, -, -, -, -, -, hsigM⟩ := Cond.code_spec hnamed hcode
  cases hmethM.symm.trans hmethM'
  obtain ⟨c2, r2, m2, q1, q2, q3, q4, kP, hkP, hkPi⟩ := Cond.selects_spec hsel
  cases hcls.symm.trans q1
  cases (State.methodFound?_of_named hnamed hy).symm.trans q2
  cases hnamed.symm.trans q3
  have hselP : selectMethod e.platform s.vm cellB.cls mk = .method mk := by rw [Launch.admits_selectMethod X.admits]; exact q4
  obtain ⟨vm₁, X₁, hstep₁⟩ := X.invokevirtual hexec hown hlink hnamed hmethM hstM hkP hkPi hy (a := b) (cell := cellB) hcell
    (fun z h => by rw [h] at hobj; cases hobj) hselP hmethM habM hkP hkPi (g := g) hg (argsL := argsL) (rest := rest) (hlen _ hsigM) hstack hdg
  obtain ⟨g', hg'⟩ : ∃ g' : JFrame, g' = { g with stack := rest } := ⟨_, rfl⟩
  obtain ⟨a, ha⟩ : ∃ a : Array Value, a = (Value.ref b :: argsL).toArray := ⟨_, rfl⟩
  obtain ⟨U, hU⟩ : ∃ U : State, U = T.setVm vm₁ := ⟨_, rfl⟩
  have hgm : g'.method = m := by rw [hg']; exact hg
  have hdg' : decode c.code g'.pc = .ok (.invokevirtual index, 3) := by rw [hg']; exact hdg
  have hsz' : g'.locals.size = c.maxLocals := by rw [hg']; exact hsize
  have hwd : 2 * g'.monitorRoom + (g'.stack.map fun v => v.category).sum ≤ 8 := by rw [hg']; exact hW
  have XU : Stand p l e R s m args below meth c U locs cells slots := by rw [hU]; exact X₁
  have hUW : s.WarmedH U.vm := XU.warmed
  have hcU : (Cond.code y bytes maxL ret).before a U = true := word_at hUW (Or.inl rfl) hcode
  have hiU : (Cond.initialized y.cls).before a U = true := word_at hUW (Or.inl rfl) hini
  have hnU : U.methodNamed? y = some mk := XU.named hnamed
  obtain ⟨methY, cY, hmY, hcY, -, hlY, -, -, -, -⟩ := Cond.code_spec hnU hcU
  obtain ⟨kY, hkY, -⟩ := className_of_methodNamed hnU
  have hinitY : kY.init = .initialized := Cond.initialized_spec (findClass_of_methodNamed hnU) hkY hiU
  have h : At U g'.method c below := by rw [hgm]; exact XU.here
  have happ : S.appliesLoose y e.platform (U.calling g' mk a) = true :=
    Spec.appliesLoose_calling (g := g') h hdg' hnU hkY hinitY
      (XU.room_calling (g := g') (R' := S.room) hsz' hmY hcY hframes (by rw [hlY]; omega) hfc hfs) (hS _ _ hUW)
  obtain ⟨mid, hmid⟩ := h.above
  have hfr : (U.setTop g').frames = (.java g' :: mid) ++ below := by rw [State.frames_setTop' g' h.top, hmid]; rfl
  have hPc : P a (U.calling g' mk a) := by
    rw [ha]
    exact hP _ (by rw [hU]; rfl) hUW
  obtain ⟨o, s₂, hsteps, -, hend, hq⟩ := Steps.callFree hM p XU.admits XU.cas XU.clock (acts := []) hfr happ hPc trivial
  have hq' : Qt a (U.calling g' mk a) o s₂ := hq
  obtain ⟨rfl, hW₂, e2, p2, p3, p4, p5, p6⟩ := hQ _ _ _ _ hq'
  rw [State.frames_setTop' g' h.top] at hend
  have e3 : s₂ = ({ (U.calling g' mk a).setFrames s₂.frames with heap := s₂.heap, slotsUsed := s₂.slotsUsed } : State).setVm s₂.vm := by
    have : s₂ = ({ s₂ with vm := (U.calling g' mk a).vm } : State).setVm s₂.vm := rfl
    rw [e2] at this
    exact this
  have hf₂ : s₂.frames = .throwing x :: .java g' :: U.frames.tail := hend
  have hW' : U.WarmedH s₂.vm := hW₂
  obtain ⟨g₀, hg0⟩ := Option.isSome_iff_exists.mp h.top
  obtain ⟨r, hr⟩ := State.topJava?_eq_some.mp hg0
  have hr' : (({ U with heap := s₂.heap, slotsUsed := s₂.slotsUsed } : State).setVm s₂.vm).frames = .java g₀ :: r := hr
  obtain ⟨th, hth, -⟩ := State.frames_cons hr
  have hs₂ : s₂ = ((({ U with heap := s₂.heap, slotsUsed := s₂.slotsUsed } : State).setVm s₂.vm).setTop g').pushFrame (.throwing x) := by
    have hfe : ((({ U with heap := s₂.heap, slotsUsed := s₂.slotsUsed } : State).setVm s₂.vm).setTop g').frames = .java g' :: r := by rw [State.frames_setTop _ hr']
    refine e3.trans ?_
    rw [hf₂, State.calling_eq h.top, State.setFrames_setFrames, State.pushFrame, hfe, State.setTop_of_frames _ hr', State.setFrames_setFrames, hr]
    rfl
  have hsame : U.sameButNew ({ U with heap := s₂.heap, slotsUsed := s₂.slotsUsed } : State) [] k n := by
    refine ⟨?_, p2, p3, p4, p5, p6⟩
    show ({ U with heap := s₂.heap, slotsUsed := s₂.slotsUsed } : State) = { U.setFrames U.frames with heap := s₂.heap, slotsUsed := s₂.slotsUsed }
    rw [State.setFrames_self hth]
  refine ⟨U.calling g' mk a, s₂, ({ U with heap := s₂.heap, slotsUsed := s₂.slotsUsed } : State).setVm s₂.vm, ⟨XU.admits, XU.cas, XU.clock, XU.frames, XU.room, XU.hears, XU.method, XU.code, (XU.here.setHeapUsed s₂.heap s₂.slotsUsed).setVm hW'.alike, XU.tail, State.WarmedH.trans XU.warmed hW', XU.limits, XU.bytes, ?_⟩, rfl, by rw [← ha]; exact hq', fun target ht => hstep₁ _ fun acts => ?_⟩
  · have := XU.same.trans (hsame.setVm s.vm)
    rw [List.append_nil] at this
    exact this
  · rw [doInvoke_state]
    rw [← hg', ← hs₂] at ht
    subst hU
    subst hg'
    subst ha
    exact hsteps.trans ht
end JXCT
