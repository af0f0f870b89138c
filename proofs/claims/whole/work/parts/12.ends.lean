/-! ===== soundness ===== -/
/-- how a method returns -/
def jx_rets (rt : Option FieldType) (i : Instr) (st : List Value) (v : Option Value) : Prop :=
  (i = .ireturn ∧ ∃ (x : Int32) (ty : FieldType), st = [.int x] ∧ rt = some ty ∧ fits ty (.int x) = true ∧ v = some (.int x)) ∨
  (i = .lreturn ∧ ∃ x : Int64, st = [.long x] ∧ rt = some .long ∧ v = some (.long x)) ∨
  (i = .areturn ∧ ∃ (x : Value) (ty : FieldType), st = [x] ∧ rt = some ty ∧ jx_isA x = true ∧ fits ty x = true ∧ v = some x) ∨
  (i = .return_ ∧ st = [] ∧ rt = none ∧ v = none)
set_option maxHeartbeats 8000000 in
theorem jx_do_ret {T : jx_T} {cd : Nat → Option Instr} {own pc : Nat} {rt : Option FieldType × Bool} {i : Instr} {lo : jx_L} {st : List Value} {h : jx_H} {v : Option Value} (hdo : jx_do T cd own pc rt i lo st h = some (.inr (.inr (.inl v)))) : jx_rets rt.1 i st v := by
  cases i <;> simp only [jx_do, jx_go, jx_br, jx_ld, jx_ald, jx_ast, jx_newa, jx_more, jx_cpy, jx_gcl] at hdo <;> (repeat' (split at hdo)) <;> first | (cases hdo; done) | skip
  · rename_i x ty hrt hc
    obtain ⟨c1, c2⟩ := (Bool.and_eq_true _ _).mp hc
    cases hdo
    exact Or.inr (Or.inr (Or.inl ⟨rfl, _, _, rfl, hrt, c1, c2, rfl⟩))
  · rename_i x ty hrt hc
    cases hdo
    exact Or.inl ⟨rfl, _, _, rfl, hrt, hc, rfl⟩
  · rename_i x hrt
    cases hdo
    exact Or.inr (Or.inl ⟨rfl, _, rfl, hrt, rfl⟩)
  · rename_i hrt
    cases hdo
    exact Or.inr (Or.inr (Or.inr ⟨rfl, rfl, hrt, rfl⟩))
/-- what a call is -/
def jx_calls (T : jx_T) (own k : Nat) (i : Instr) (st : List Value) (h : jx_H) (m2 : Nat) (as r : List Value) : Prop :=
  (r.map fun v => v.category).sum ≤ 8 ∧
  ((i = .invokestatic k ∧ ∃ n, jx_cs T own k = some (m2, n) ∧ as.length = n ∧ st = as.reverse ++ r) ∨
   (∃ (n : Nat) (g : Nat → Option Nat) (a ci : Nat) (bs : List Value), as = .ref a :: bs ∧ bs.length = n ∧ st = bs.reverse ++ .ref a :: r ∧ jx_cls T h a = some ci ∧ g ci = some m2 ∧
     ((i = .invokevirtual k ∧ jx_cv T own k = some (n, g)) ∨ (i = .invokespecial k ∧ jx_cp T own k = some (n, g) ∧ a < jx_big))))
theorem jx_args_some {n : Nat} {st as r : List Value} (h : jx_args n st = some (as, r)) : as.length = n ∧ st = as.reverse ++ r := by
  unfold jx_args at h
  split at h
  · rename_i hn
    cases h
    refine ⟨by simp [hn], by simp⟩
  · cases h
set_option maxHeartbeats 8000000 in
theorem jx_do_call {T : jx_T} {cd : Nat → Option Instr} {own pc : Nat} {rt : Option FieldType × Bool} {i : Instr} {lo : jx_L} {st : List Value} {h : jx_H} {m2 : Nat} {as r : List Value} (hdo : jx_do T cd own pc rt i lo st h = some (.inr (.inl (m2, as, r)))) : ∃ k, jx_calls T own k i st h m2 as r := by
  cases i <;> simp only [jx_do, jx_go, jx_br, jx_ld, jx_ald, jx_ast, jx_newa, jx_more, jx_cpy, jx_gcl] at hdo <;> (repeat' (split at hdo)) <;> first | (cases hdo; done) | skip
  · rename_i hw
    cases hdo
    obtain ⟨h1, h2⟩ := jx_args_some ‹jx_args _ _ = some _›
    obtain ⟨hw, hbg⟩ := (Bool.and_eq_true _ _).mp hw
    exact ⟨_, of_decide_eq_true hw, Or.inr ⟨_, _, _, _, _, rfl, h1, h2, by assumption, by assumption, Or.inr ⟨rfl, by assumption, of_decide_eq_true hbg⟩⟩⟩
  · rename_i hw
    cases hdo
    obtain ⟨h1, h2⟩ := jx_args_some ‹jx_args _ _ = some _›
    exact ⟨_, of_decide_eq_true hw, Or.inl ⟨rfl, _, by assumption, h1, h2⟩⟩
  · rename_i hw
    cases hdo
    obtain ⟨h1, h2⟩ := jx_args_some ‹jx_args _ _ = some _›
    exact ⟨_, of_decide_eq_true hw, Or.inr ⟨_, _, _, _, _, rfl, h1, h2, by assumption, by assumption, Or.inl ⟨rfl, by assumption⟩⟩⟩
/-- the methods: names and bytes; their words; what their instructions are -/
def jx_mok (M : Nat → Option jx_M) (N : Nat → MethodName × ByteArray) (WS : List Cond) (ow : Nat → String) : Prop :=
  ∀ (mi own nL : Nat) (rt : Option FieldType × Bool) (cd : Nat → Option Instr) (hd : Nat → Nat → Option Nat), M mi = some (own, nL, rt, cd, hd) →
    (mi < 1000 → Cond.code (N mi).1 (N mi).2 nL rt.1 ∈ WS) ∧ plainName (N mi).1.cls = true ∧ (N mi).1.cls = ow own ∧ nL ≤ 81 ∧ (rt.2 = true → (N mi).1.name = "<init>") ∧ ((N mi).1.name = "<init>" → rt.1 = none) ∧
      (∀ (pc : Nat) (i : Instr), cd pc = some i → ∃ len, decode (N mi).2 pc = .ok (i, len) ∧ (jx_isSwitch i = false → len = jx_len i)) ∧ ∀ pc ci : Nat, hd pc ci = none
def jx_cok (T : jx_T) (cl : List vw_C) (ow : Nat → String) (N : Nat → MethodName × ByteArray) (s : State) : Prop :=
  (∀ (own k m2 n : Nat), jx_cs T own k = some (m2, n) → jx_ckS (ow own) k (N m2).1 n s) ∧
  (∀ (own k n : Nat) (g : Nat → Option Nat) (ci m2 : Nat), jx_cv T own k = some (n, g) → g ci = some m2 → ∃ r : vw_C, cl[ci]? = some r ∧ jx_ckV (ow own) k r.1 (N m2).1 n s) ∧
  ∀ (own k n : Nat) (g : Nat → Option Nat) (ci m2 : Nat), jx_cp T own k = some (n, g) → g ci = some m2 → ∃ r : vw_C, cl[ci]? = some r ∧ jx_ckI (ow own) k r.1 (N m2).1 n s
def jx_env (T : jx_T) (cl : List vw_C) (ow : Nat → String) (G : jx_G) (H0 : Heap) (N : Nat → MethodName × ByteArray) (WS : List Cond) (s : State) : Prop := jx_ok T cl ow G H0 s ∧ jx_cok T cl ow N s ∧ jx_ws WS s
theorem jx_env.warm {T : jx_T} {cl : List vw_C} {ow : Nat → String} {G : jx_G} {H0 : Heap} {N : Nat → MethodName × ByteArray} {WS : List Cond} {s U : State} (hW : s.WarmedH U.vm) (h : jx_env T cl ow G H0 N WS s) : jx_env T cl ow G H0 N WS U := by
  obtain ⟨h1, ⟨h2, h3, h4⟩, h5⟩ := h
  refine ⟨h1.warm hW, ⟨fun own k m2 n hc => (h2 own k m2 n hc).warm hW, fun own k n g ci m2 hc hg => ?_, fun own k n g ci m2 hc hg => ?_⟩, h5.warm hW⟩
  · obtain ⟨r, q1, q2⟩ := h3 own k n g ci m2 hc hg
    exact ⟨r, q1, q2.warm hW⟩
  · obtain ⟨r, q1, q2⟩ := h4 own k n g ci m2 hc hg
    exact ⟨r, q1, q2.warm hW⟩
/-- a method's start and its end -/
def jx_P (T : jx_T) (cl : List vw_C) (ow : Nat → String) (G : jx_G) (H0 : Heap) (N : Nat → MethodName × ByteArray) (WS : List Cond) (vs : List Value) (h : jx_H) : Array Value → State → Prop := fun a U => a = (vs.map (jx_v G)).toArray ∧ jx_rep G cl H0 h U.heap ∧ jx_env T cl ow G H0 N WS U
def jx_Q (G : jx_G) (cl : List vw_C) (H0 : Heap) (hf : jx_H) (v : Option Value) : Array Value → State → Outcome → State → Prop := fun _ _ o t => o = .returned (v.map (jx_v G)) ∧ jx_rep G cl H0 hf t.heap
def jx_rm (d mc ms : Nat) : Room := { frames := d + 8, cells := mc, slots := ms, locals := 100 * d + 120 }
theorem jx_P.blind {T : jx_T} {cl : List vw_C} {ow : Nat → String} {G : jx_G} {H0 : Heap} {N : Nat → MethodName × ByteArray} {WS : List Cond} {vs : List Value} {h : jx_H} : FrameBlind (jx_P T cl ow G H0 N WS vs h) := by
  intro a U g mk hP
  exact ⟨hP.1, hP.2.1, hP.2.2.warm (State.WarmedH.refl U)⟩
section JXR
variable {p : Program} {l : Launch} {e : Env} {R : Room} {s : State} {m : MethodId} {args : Array Value} {below : List Frame} {meth : Method} {c : Code} {H H0 : Heap} {locs : List Loc} {cells slots : Nat}
theorem jx_retW {cc : ByteArray} {T : jx_T} {G : jx_G} {cl : List vw_C} {hf : jx_H} {rt : Option FieldType} {i : Instr} {st : List Value} {v : Option Value} {pc : Nat} {ls : Array Slot} (hexec : p.tables.exec = Jvm.exec) (hb : c.code = cc) (hr : meth.sig.returnType = rt) (hlocks : meth.locks = false) (hrs : jx_rets rt i st v) (hdg : decode cc pc = .ok (i, 1)) (hrep : jx_rep G cl H0 hf H) (hf2 : ∀ z ∈ locs, jx_fre T G z.base) :
    W p l e R s m args below meth c H locs cells slots (MQ below (jx_Q G cl H0 hf v) args s cells slots (jx_fre T G)) (F0 m pc ls (st.map (jx_v G))) := by
  rcases hrs with ⟨rfl, x, ty, rfl, rfl, h1, rfl⟩ | ⟨rfl, x, rfl, rfl, rfl⟩ | ⟨rfl, x, ty, rfl, rfl, h1, h2, rfl⟩ | ⟨rfl, rfl, rfl, rfl⟩
  · exact W.zret hexec hb hr (narrow_of_fits h1) (fun t ht _ => ⟨rfl, by rw [ht]; exact hrep⟩) hf2 hdg hlocks
  · exact W.lret hexec hb hr (fun t ht _ => ⟨rfl, by rw [ht]; exact hrep⟩) hf2 hdg hlocks
  · refine W.aret hexec hb hr ?_ ?_ (fun t ht _ => ⟨rfl, by rw [ht]; exact hrep⟩) hf2 hdg hlocks
    · cases x <;> cases ty <;> first | (cases h1; done) | (cases h2; done) | exact Or.inl ⟨_, rfl⟩ | exact Or.inr ⟨_, rfl⟩
    · cases x <;> first | (cases h1; done) | exact Or.inl rfl | exact Or.inr ⟨_, rfl⟩
  · exact W.vret hexec hb hr (fun t ht _ => ⟨rfl, by rw [ht]; exact hrep⟩) hf2 hdg hlocks
end JXR
