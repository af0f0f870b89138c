/-! ===== calls ===== -/
def jx_nmh (y : MethodName) (n : Nat) : Prop := y.cls ≠ "java/lang/invoke/MethodHandle" ∧ y.cls ≠ "java/lang/invoke/VarHandle" ∧ (parseMethodDescriptor y.desc).map (fun d => d.parameters.length) = some n
def jx_ml (own : String) (k : Nat) (y : MethodName) (s : State) : Prop := jx_w (.methodLink own k y) s ∨ ∃ host : String, jx_w (.methodLinkNest own k y host) s
theorem jx_ml.warm {s U : State} {own : String} {k : Nat} {y : MethodName} (hW : s.WarmedH U.vm) (h : jx_ml own k y s) : jx_ml own k y U := by
  rcases h with h | ⟨host, h⟩
  · exact Or.inl (h.warm hW rfl)
  · exact Or.inr ⟨host, fun A => va_Nw.use (A := A) rfl (va_Nw.warmM hW (h #[]))⟩
/-- a static call -/
def jx_ckS (own : String) (k : Nat) (y : MethodName) (n : Nat) (s : State) : Prop := jx_ml own k y s ∧ jx_w (.static y) s ∧ jx_w (.initialized y.cls) s ∧ jx_nmh y n
/-- a call on an object of class C: the method that the constant names, or one that it inherits -/
def jx_ckV (own : String) (k : Nat) (C : String) (y : MethodName) (n : Nat) (s : State) : Prop := jx_w (.instanceMethod y) s ∧ jx_w (.initialized y.cls) s ∧
  ((jx_ml own k y s ∧ jx_w (.selects C y y) s ∧ jx_nmh y n) ∨
   ∃ (x : MethodName) (owner : String) (b0 : ByteArray) (m0 : Nat) (r0 : Option FieldType), jx_w (.instanceMethod ⟨owner, x.name, x.desc⟩) s ∧ jx_w (.code ⟨owner, x.name, x.desc⟩ b0 m0 r0) s ∧ jx_w (.methodLink own k x) s ∧ jx_w (.sameMethod x.cls owner x.name x.desc) s ∧ jx_w (.selects C x y) s ∧ owner ≠ "java/lang/invoke/MethodHandle" ∧ owner ≠ "java/lang/invoke/VarHandle" ∧ (parseMethodDescriptor x.desc).map (fun d => d.parameters.length) = some n)
/-- a constructor, or a method of the class above -/
def jx_ckI (own : String) (k : Nat) (C : String) (y : MethodName) (n : Nat) (s : State) : Prop := jx_w (.instanceMethod y) s ∧ jx_w (.initialized y.cls) s ∧
  ((y.name = "<init>" ∧ jx_ml own k y s ∧ jx_nmh y n) ∨
   (y.name ≠ "<init>" ∧ jx_w (.methodLink own k y) s ∧ jx_w (.sameMethod y.cls y.cls y.name y.desc) s ∧ jx_w (.superclass own y.cls) s ∧ (parseMethodDescriptor y.desc).map (fun d => d.parameters.length) = some n))
theorem jx_ckS.warm {s U : State} {own : String} {k n : Nat} {y : MethodName} (hW : s.WarmedH U.vm) (h : jx_ckS own k y n s) : jx_ckS own k y n U := ⟨h.1.warm hW, h.2.1.warm hW rfl, h.2.2.1.warm hW rfl, h.2.2.2⟩
theorem jx_ckV.warm {s U : State} {own C : String} {k n : Nat} {y : MethodName} (hW : s.WarmedH U.vm) (h : jx_ckV own k C y n s) : jx_ckV own k C y n U := by
  obtain ⟨h1, h2, h3⟩ := h
  refine ⟨h1.warm hW rfl, h2.warm hW rfl, ?_⟩
  rcases h3 with ⟨a, b, c⟩ | ⟨x, o, b0, m0, r0, a0, a1, a2, a3, a4, a5⟩
  · exact Or.inl ⟨a.warm hW, b.warm hW rfl, c⟩
  · exact Or.inr ⟨x, o, b0, m0, r0, a0.warm hW rfl, a1.warm hW rfl, a2.warm hW rfl, a3.warm hW rfl, a4.warm hW rfl, a5⟩
theorem jx_ckI.warm {s U : State} {own C : String} {k n : Nat} {y : MethodName} (hW : s.WarmedH U.vm) (h : jx_ckI own k C y n s) : jx_ckI own k C y n U := by
  obtain ⟨h1, h2, h3⟩ := h
  refine ⟨h1.warm hW rfl, h2.warm hW rfl, ?_⟩
  rcases h3 with ⟨a, b, c⟩ | ⟨a1, a2, a3, a4, a5⟩
  · exact Or.inl ⟨a, b.warm hW, c⟩
  · exact Or.inr ⟨a1, a2.warm hW rfl, a3.warm hW rfl, a4.warm hW rfl, a5⟩
/-- the callee's words, at every later state -/
def jx_ws (WS : List Cond) (s : State) : Prop := ∀ w ∈ WS, goodWord w = true ∧ jx_w w s
theorem jx_ws.warm {WS : List Cond} {s U : State} (hW : s.WarmedH U.vm) (h : jx_ws WS s) : jx_ws WS U := fun w hw => ⟨(h w hw).1, (h w hw).2.warm hW (h w hw).1⟩
theorem jx_len_of {desc : String} {n : Nat} (h : (parseMethodDescriptor desc).map (fun d => d.parameters.length) = some n) : ∀ sig, parseMethodDescriptor desc = some sig → n = sig.parameters.length := by
  intro sig hs
  rw [hs] at h
  exact (Option.some.inj h).symm
section JXC
variable {p : Program} {l : Launch} {e : Env} {R : Room} {s : State} {m : MethodId} {args : Array Value} {below : List Frame} {meth : Method} {c : Code} {H : Heap} {locs : List Loc} {cells slots : Nat}
variable {y : MethodName} {bytes cc : ByteArray} {maxL nL mc ms n k : Nat} {ret : Option FieldType} {WS : List Cond} {rm : Room} {Pc : Array Value → State → Prop} {Qc : Array Value → State → Outcome → State → Prop} {free : Addr → Prop} {own C : String} {b : Addr} {As rest : List Value} {pc : Nat} {ls : Array Slot} {st : List Value}
theorem jx_hws (hws : jx_ws WS s) (hcode : Cond.code y bytes maxL ret ∈ WS) : (∀ w ∈ Cond.code y bytes maxL ret :: WS, ∀ (a' : Array Value) (U : State), s.WarmedH U.vm → w.before a' U = true) := by
  intro w hw a' U hW
  rcases List.mem_cons.mp hw with rfl | h
  · exact ((hws _ hcode).2.warm hW (hws _ hcode).1) a'
  · exact ((hws w h).2.warm hW (hws w h).1) a'
theorem jx_runS (hexec : p.tables.exec = Jvm.exec) (hb : c.code = cc) (hml : c.maxLocals = nL) (hown : s.vm.findClass own = some m.cls) (hws : jx_ws WS s) (hcode : Cond.code y bytes maxL ret ∈ WS) (hck : jx_ckS own k y n s) (hM : Met l y (.code y bytes maxL ret :: WS) rm Pc Qc mc ms free)
    (hrc : rm.cells = mc) (hrs : rm.slots = ms) (hfr : rm.frames + 1 ≤ R.frames) (hlo : 8 + (maxL + 11) + rm.locals ≤ R.locals) (hp : PreS s H Pc As) (hn : As.length = n) (hsize : ls.size = nL) (hstack : st = As.reverse ++ rest) (hW : (rest.map fun v => v.category).sum ≤ 8) (hdg : decode cc pc = .ok (.invokestatic k, 3)) (hf : cells + mc ≤ R.cells ∧ slots + ms ≤ R.slots) :
    va_Run p l e R s m args below meth c H locs cells slots mc ms (F0 m pc ls st) rest (Qc As.toArray) free := by
  obtain ⟨h1, h2, h3, h4, h5, h6⟩ := hck
  have S : CallFix p m c cc nL s args [] own := ⟨hexec, hb, hml, hown, fun w hw => by cases hw⟩
  have hcb := (hws _ hcode).2 args
  rcases h1 with h1 | ⟨host, h1⟩
  · exact va_runS (n := n) S hM ⟨⟨hrc, hrs, hfr, hlo, jx_hws hws hcode, List.mem_cons_self, hcb, h3 args, ⟨h4, h5⟩, jx_len_of h6, h1 args⟩, h2 args⟩ hp rfl hn hsize hstack (by show 2 * 0 + _ ≤ 8; omega) hdg hf
  · exact va_runSN (n := n) (host := host) S hM ⟨⟨⟨hrc, hrs, hfr, hlo, jx_hws hws hcode, List.mem_cons_self⟩, hcb, h3 args, ⟨h4, h5⟩, jx_len_of h6, h1 args⟩, h2 args, trivial⟩ hp rfl hn hsize hstack (by show 2 * 0 + _ ≤ 8; omega) hdg hf
theorem jx_runV (hexec : p.tables.exec = Jvm.exec) (hb : c.code = cc) (hml : c.maxLocals = nL) (hown : s.vm.findClass own = some m.cls) (hws : jx_ws WS s) (hcode : Cond.code y bytes maxL ret ∈ WS) (hck : jx_ckV own k C y n s) (hM : Met l y (.code y bytes maxL ret :: WS) rm Pc Qc mc ms free)
    (hrc : rm.cells = mc) (hrs : rm.slots = ms) (hfr : rm.frames + 1 ≤ R.frames) (hlo : 8 + (maxL + 11) + rm.locals ≤ R.locals) (hp : PreV s H C b Pc As) (hn : As.length = n) (hsize : ls.size = nL) (hstack : st = As.reverse ++ .ref b :: rest) (hW : (rest.map fun v => v.category).sum ≤ 8) (hdg : decode cc pc = .ok (.invokevirtual k, 3)) (hf : cells + mc ≤ R.cells ∧ slots + ms ≤ R.slots) :
    va_Run p l e R s m args below meth c H locs cells slots mc ms (F0 m pc ls st) rest (Qc (Value.ref b :: As).toArray) free := by
  obtain ⟨g1, g2, g3⟩ := hck
  have S : CallFix p m c cc nL s args [] own := ⟨hexec, hb, hml, hown, fun w hw => by cases hw⟩
  have hcb := (hws _ hcode).2 args
  rcases g3 with ⟨h1, h2, h4, h5, h6⟩ | ⟨x, owner, b0, m0, r0, a0, a1, a2, a3, a4, a5, a6, a7⟩
  · rcases h1 with h1 | ⟨host, h1⟩
    · exact va_runV (n := n) (C := C) S hM ⟨⟨hrc, hrs, hfr, hlo, jx_hws hws hcode, List.mem_cons_self, hcb, g2 args, ⟨h4, h5⟩, jx_len_of h6, h1 args⟩, g1 args, h2 args⟩ hp rfl hn hsize hstack (by show 2 * 0 + _ ≤ 8; omega) hdg hf
    · exact va_runVN (n := n) (C := C) (host := host) S hM ⟨⟨⟨hrc, hrs, hfr, hlo, jx_hws hws hcode, List.mem_cons_self⟩, hcb, g2 args, ⟨h4, h5⟩, jx_len_of h6, h1 args⟩, g1 args, h2 args⟩ hp rfl hn hsize hstack (by show 2 * 0 + _ ≤ 8; omega) hdg hf
  · exact va_runU (n := n) (C := C) (owner := owner) (x := x) S hM ⟨⟨hrc, hrs, hfr, hlo, jx_hws hws hcode, List.mem_cons_self⟩, hcb, g2 args, ⟨a5, a6⟩, jx_len_of a7, a2 args, a3 args, va_Decl.of (a0 args) (a1 args), a4 args, g1 args⟩ hp rfl hn hsize hstack (by show 2 * 0 + _ ≤ 8; omega) hdg hf
theorem jx_runI (hexec : p.tables.exec = Jvm.exec) (hb : c.code = cc) (hml : c.maxLocals = nL) (hown : s.vm.findClass own = some m.cls) (hws : jx_ws WS s) (hcode : Cond.code y bytes maxL ret ∈ WS) {cC : ClassId} (hat : ClassAt s C cC) (hck : jx_ckI own k C y n s) (hi : y.name = "<init>" → ret = none) (hM : Met l y (.code y bytes maxL ret :: WS) rm Pc Qc mc ms free)
    (hrc : rm.cells = mc) (hrs : rm.slots = ms) (hfr : rm.frames + 1 ≤ R.frames) (hlo : 8 + (maxL + 11) + rm.locals ≤ R.locals) (hp : PreV s H C b Pc As) (hn : As.length = n) (hsize : ls.size = nL) (hstack : st = As.reverse ++ .ref b :: rest) (hW : (rest.map fun v => v.category).sum ≤ 8) (hdg : decode cc pc = .ok (.invokespecial k, 3)) (hf : cells + mc ≤ R.cells ∧ slots + ms ≤ R.slots) :
    va_Run p l e R s m args below meth c H locs cells slots mc ms (F0 m pc ls st) rest (Qc (Value.ref b :: As).toArray) free := by
  obtain ⟨g1, g2, g3⟩ := hck
  have S : CallFix p m c cc nL s args [] own := ⟨hexec, hb, hml, hown, fun w hw => by cases hw⟩
  have hcb := (hws _ hcode).2 args
  rcases g3 with ⟨h0, h1, h4, h5, h6⟩ | ⟨a1, a2, a3, a4, a5⟩
  · obtain rfl := hi h0
    rcases h1 with h1 | ⟨host, h1⟩
    · exact va_runI (n := n) S hM ⟨⟨hrc, hrs, hfr, hlo, jx_hws hws hcode, List.mem_cons_self, hcb, g2 args, ⟨h4, h5⟩, jx_len_of h6, h1 args⟩, h0, g1 args⟩ ⟨hp.1, hp.2.2⟩ rfl hn hsize hstack (by show 2 * 0 + _ ≤ 8; omega) hdg hf
    · exact va_runIN (n := n) (host := host) S hM ⟨⟨⟨hrc, hrs, hfr, hlo, jx_hws hws hcode, List.mem_cons_self⟩, hcb, g2 args, ⟨h4, h5⟩, jx_len_of h6, h1 args⟩, h0, g1 args⟩ ⟨hp.1, hp.2.2⟩ rfl hn hsize hstack (by show 2 * 0 + _ ≤ 8; omega) hdg hf
  · exact va_runSU (n := n) (C := C) hat S hM ⟨⟨hrc, hrs, hfr, hlo, jx_hws hws hcode, List.mem_cons_self⟩, a2 args, a3 args, a4 args, g1 args, g2 args, hcb, a1, jx_len_of a5⟩ hp rfl hn hsize hstack (by show 2 * 0 + _ ≤ 8; omega) hdg hf
end JXC
