/-! ===== a method that makes an exception and throws it ===== -/
section JXTE
variable {p : Program} {l : Launch} {e : Env} {R : Room} {s : State} {m : MethodId} {args : Array Value} {below : List Frame} {meth : Method} {c : Code}
theorem jx_s_throw {cc : ByteArray} {nL pc k ic : Nat} {o cls : String} {names : List String} {ls : Array Slot} (hexec : p.tables.exec = Jvm.exec) (hb : c.code = cc) (hml : c.maxLocals = nL) (hlocks : meth.locks = false) (hnoh : c.exceptionTable.isEmpty = true) (hown : s.vm.findClass o = some m.cls) (htr : e.platform.stackTraces = false)
    (hcls : Bundle.fit cls = true) (hnames : ∀ n ∈ names, Bundle.fit n = true) (hat : ∀ a ∈ Bundle.ownAtoms0 o ic cls names, a.before args s = true) (hwc : (Cond.classLink o k cls).before args s = true) (hini : (Cond.initialized cls).before args s = true)
    (hd0 : decode cc pc = .ok (.new k, 3)) (hd3 : decode cc (pc + 3) = .ok (.dup, 1)) (hd4 : decode cc (pc + 4) = .ok (.invokespecial ic, 3)) (hd7 : decode cc (pc + 7) = .ok (.athrow, 1)) (hRf : names.length + 3 < R.frames) (hRl : 13 * (names.length + 1) + 50 ≤ R.locals) (hRc : 1 ≤ R.cells) (hRs : 6 ≤ R.slots) (hsize : ls.size = nL) :
    W p l e R s m args below meth c s.heap [] 0 0 (fun t => t.status = .running ∧ Ended t below (.threw s.heap.size) ∧ s.WarmedH t.vm ∧ s.sameButNew ({ t with vm := s.vm } : State) [] 1 6 ∧ ∃ ce, t.heap[s.heap.size]? = some ce ∧ Bundle.OwnCell args s cls s.heap.size .null ce) (F0 m pc ls []) := by
  have hins : (Cond.instantiable cls 6).before args s = true := hat _ (by simp [Bundle.ownAtoms0])
  obtain ⟨cC, kC0, hfc, -⟩ := Cond.instantiable_spec hins
  refine W.newcK hexec hb hown hwc hins hini rfl hd0 (by omega) (by omega) hfc rfl fun H' kC hkC e1 z1 o1 => ?_
  refine lv_dup hexec hb hd3 rfl ?_
  refine W.eq (g2 := F0 m (pc + 4) ls [.ref s.heap.size, .ref s.heap.size]) rfl ?_
  intro T2 hT2 X2
  obtain ⟨U, a1, a2, a3, a4, a5, ce, a6, a7⟩ := X2.ctorThrow0 (g := F0 m (pc + 4) ls [.ref s.heap.size, .ref s.heap.size]) (rest := []) (a := s.heap.size) hexec htr hown hcls hnames hat (fun x hx => by cases hx) hfc hkC (by rw [hT2]; exact e1) (Nat.le_refl _) rfl (by rw [hml]; exact hsize) rfl rfl rfl (by rw [hb]; exact hd4) (by rw [hb]; exact hd7)
    (fun x hx => by rw [Array.isEmpty_iff.mp hnoh] at hx; cases hx) hRf (by show 2 * 0 + (1 + 0) + _ ≤ _; omega) hlocks
  exact ⟨U, a1, a2, a3, a4, a5, ce, a6, a7⟩
end JXTE
/-- the two statics that every exception is born with -/
def jx_xt (G : jx_G) (H0 : Heap) (s : State) : Prop := (∀ x ∈ [("UNASSIGNED_STACK", "[Ljava/lang/StackTraceElement;"), ("SUPPRESSED_SENTINEL", "Ljava/util/List;")], va_Zq "java/lang/Throwable" x.1 x.2 (fun q => G.1 ≤ q) s H0)
theorem jx_xt.warm {G : jx_G} {H0 : Heap} {s U : State} (hW : s.WarmedH U.vm) (h : jx_xt G H0 s) : jx_xt G H0 U := fun x hx => (h x hx).moved hW.alike
theorem jx_ref_of {G : jx_G} {H0 : Heap} {s : State} {C n d : String} {args : Array Value} (hq : ∀ q : Nat, q < G.1 → s.heap[q]? = H0[q]?) (h : va_Zq C n d (fun q => G.1 ≤ q) s H0) : (Cond.isRef (.static C n d)).before args s = true := by
  have key : ∀ v : Value, va_Z C n d v (fun q => G.1 ≤ q) s H0 → (Term.static C n d).eval args s none [] s = some v := by
    intro v hZ
    obtain ⟨cf, kf, fi, f, a, cell, h1, h2, h3, h4, h5, h6, h7, h8⟩ := hZ
    have h5 : s.heap[a]? = some cell := by rw [hq a (Nat.not_le.mp h8)]; exact h5
    simp [Term.eval, State.fieldNamed?, h1, h2, h4, h5, h6, h7]
  rcases h with h | ⟨t, h⟩
  · simp [Cond.before, Cond.holds, Cond.value, key _ h]
  · simp [Cond.before, Cond.holds, Cond.value, key _ h]
theorem jx_lays_of {H0 : Heap} {b : Nat} {s0 s : State} {C n d : String} {args A : Array Value} (h0 : s0.heap = H0) (hb : b = H0.size) (hal : s0.vm.Alike s.vm) (hq : ∀ q : Nat, q < b → s.heap[q]? = H0[q]?) (h : (Cond.laysStatic C n d).before A s0 = true) : (Cond.laysStatic C n d).before args s = true := by
  have h1 := Cond.laysStatic_setVm hal h
  obtain ⟨c, k, i, f, a, cell, q1, q2, q3, q4, q5, q6, q7, q8, q9⟩ := Cond.laysStatic_spec h1
  have hlt : a < H0.size := by
    rw [← h0]
    exact (Array.getElem?_eq_some_iff.mp q5).1
  have q5 : s.heap[a]? = some cell := by
    rw [hq a (by rw [hb]; exact hlt), ← h0]
    exact q5
  have q1 : s.vm.findClass C = some c := q1
  have q2 : s.fieldFound? C n d = some (c, k, i, f) := q2
  simp only [Cond.before, Cond.holds, Cond.value, q1, q2, q4, q5, Option.bind_some, Option.map_some]
  simp [q3, q6, q7, q8, q9]
