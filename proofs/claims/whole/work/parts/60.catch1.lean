/-! ===== an exception is caught: the catch type may not be resolved yet ===== -/
def jx_fw (e : Env) (s : State) (f : JFrame) (a : Addr) (tbl : List ExceptionTableEntry) (h : Handler) (vm' : Vm) : Prop :=
  ∀ (Q : Handler → Pre) (E : CtlPost) (d : Bool) (acts : List Action), (∀ d', Q h d' acts (s.setVm vm')) → wp (findHandler.go f a tbl) Q E e d acts s
theorem jx_fw_yes {e : Env} {s : State} {f : JFrame} {a : Addr} {x : ExceptionTableEntry} {t : List ExceptionTableEntry} {c : ClassId} {cell : Cell} {vm' : Vm} (hx : covers x f.pc = true) (h0 : x.catchType ≠ 0) (hg : (Jvm.resolveClass f.method.cls x.catchType).Gives e.toSetting s.vm (.ok c) vm') (hsz : vm'.classes.size ≤ s.vm.classes.size)
    (hcell : s.heap[a]? = some cell) (hobj : ∀ k, cell.vm ≠ .statics k) (hk : ∃ k, vm'.classes[cell.cls]? = some k) (hc : ∃ k, vm'.classes[c]? = some k) (hfit : vm'.assignable cell.cls c = true) : jx_fw e s f a (x :: t) (.found x.handlerPc) vm' := by
  intro Q E d acts hQ
  simp only [covers] at hx
  obtain ⟨ha, ht⟩ := hg.op (op := VmOp.resolveClass f.method.cls x.catchType) rfl
  unfold findHandler.go
  simp [hx, h0, W.vmOp_same (VmOp.resolveClass f.method.cls x.catchType) (by rw [ht]; exact hsz), ha, ht, hcell, hobj, hk, hc, hfit, VmOp.dirties, VmOp.acts, hQ]
theorem jx_fw_no {e : Env} {s : State} {f : JFrame} {a : Addr} {x : ExceptionTableEntry} {t : List ExceptionTableEntry} {c : ClassId} {cell : Cell} {vm' vm'' : Vm} {h : Handler} (hx : covers x f.pc = true) (h0 : x.catchType ≠ 0) (hg : (Jvm.resolveClass f.method.cls x.catchType).Gives e.toSetting s.vm (.ok c) vm') (hsz : vm'.classes.size ≤ s.vm.classes.size)
    (hcell : s.heap[a]? = some cell) (hobj : ∀ k, cell.vm ≠ .statics k) (hk : ∃ k, vm'.classes[cell.cls]? = some k) (hc : ∃ k, vm'.classes[c]? = some k) (hfit : vm'.assignable cell.cls c = false) (hr : jx_fw e (s.setVm vm') f a t h vm'') : jx_fw e s f a (x :: t) h vm'' := by
  intro Q E d acts hQ
  simp only [covers] at hx
  obtain ⟨ha, ht⟩ := hg.op (op := VmOp.resolveClass f.method.cls x.catchType) rfl
  unfold findHandler.go
  simp [hx, h0, W.vmOp_same (VmOp.resolveClass f.method.cls x.catchType) (by rw [ht]; exact hsz), ha, ht, hcell, hobj, hk, hc, hfit, VmOp.dirties, VmOp.acts]
  exact hr Q E _ acts hQ
theorem jx_throw_step {e : Env} {s : State} {a : Addr} {f : JFrame} {r : List Frame} {pc : Nat} {meth : Method} {code : Code} {vm' : Vm} (hm : s.vm.method? f.method = some meth) (hc : meth.code = some code) (hfind : jx_fw e s f a code.exceptionTable.toList (.found pc) vm') :
    (stepThrowing e s a (.java f :: r)).1 = (s.setVm vm').setFrames (.java { f with pc := pc, stack := [.ref a] } :: r) := by
  simp only [stepThrowing, searchFrame, vmDo]
  generalize hr : Sem.go _ e false [] s = res
  obtain ⟨as, rfl, ha⟩ := Sem.eq_ok_of hr (a := Handler.found pc) (s' := s.setVm vm') (acts' := []) (by
    simp only [wp_bind']
    rw [W.findHandler_eq hm hc]
    exact hfind _ _ _ _ (fun d' => by simp))
  rfl
