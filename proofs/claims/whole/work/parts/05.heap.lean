/-! ===== the heap ===== -/
def jx_pt (G : jx_G) (cl : List vw_C) (a : Nat) (x : jx_C) (H : Heap) : Prop := match x with
  | .inl x => x.1 < 100 ∧ H[G.1 + a]? = some (arrV (G.2.2.2.2.1 x.1) x.2.1 (fun j => jx_v G (x.2.2 j)))
  | .inr o => o.1 < G.2.2.2.2.2 ∧ ∃ r : vw_C, cl[o.1]? = some r ∧ o.2.length = r.2.2 ∧ t_OB (G.1 + a) (G.2.2.1 o.1) r.2.2 (G.2.2.2.1 o.1) H (fun k => jx_v G (vp_V o.2 k))
/-- the run's heap h; H0: the heap before the run -/
def jx_rep (G : jx_G) (cl : List vw_C) (H0 : Heap) (h : jx_H) (H : Heap) : Prop := H.size = G.1 + h.length ∧ (∀ (a : Nat) (x : jx_C), h[a]? = some x → jx_pt G cl a x H) ∧ ∀ q : Nat, q < G.1 → H[q]? = H0[q]?
theorem jx_pt.kept {G : jx_G} {cl : List vw_C} {a : Nat} {x : jx_C} {H H1 : Heap} (h : jx_pt G cl a x H) (hq : H1[G.1 + a]? = H[G.1 + a]?) : jx_pt G cl a x H1 := by
  cases x with
  | inl x => exact ⟨h.1, hq.trans h.2⟩
  | inr o =>
    obtain ⟨h0, r, h1, h2, h3⟩ := h
    exact ⟨h0, r, h1, h2, h3.kept hq⟩
theorem jx_rep.set {G : jx_G} {cl : List vw_C} {H0 : Heap} {h : jx_H} {H H1 : Heap} {a : Nat} {x0 x : jx_C} (hr : jx_rep G cl H0 h H) (ha : h[a]? = some x0) (hz : H1.size = H.size) (hn : jx_pt G cl a x H1) (ho : ∀ q : Nat, q ≠ G.1 + a → H1[q]? = H[q]?) : jx_rep G cl H0 (h.set a x) H1 := by
  obtain ⟨h1, h2, h3⟩ := hr
  refine ⟨by rw [hz, h1, List.length_set], fun b y hy => ?_, fun q hq => (ho q (by omega)).trans (h3 q hq)⟩
  by_cases hab : a = b
  · subst hab
    rw [List.getElem?_set_self ((List.getElem?_eq_some_iff.mp ha).1)] at hy
    cases hy
    exact hn
  · rw [List.getElem?_set_ne hab] at hy
    exact (h2 b y hy).kept (ho _ (by omega))
theorem jx_rep.push {G : jx_G} {cl : List vw_C} {H0 : Heap} {h : jx_H} {H H1 : Heap} {x : jx_C} (hr : jx_rep G cl H0 h H) (hz : H1.size = H.size + 1) (hn : jx_pt G cl h.length x H1) (ho : ∀ q : Nat, q < H.size → H1[q]? = H[q]?) : jx_rep G cl H0 (h ++ [x]) H1 := by
  obtain ⟨h1, h2, h3⟩ := hr
  refine ⟨by rw [hz, h1, List.length_append]; simp; omega, fun b y hy => ?_, fun q hq => (ho q (by omega)).trans (h3 q hq)⟩
  by_cases hb : b < h.length
  · rw [List.getElem?_append_left hb] at hy
    exact (h2 b y hy).kept (ho _ (by omega))
  · rw [List.getElem?_append_right (by omega)] at hy
    have hz : b - h.length < 1 := (List.getElem?_eq_some_iff.mp hy).1
    have hb0 : b = h.length := by omega
    subst hb0
    rw [Nat.sub_self] at hy
    cases hy
    exact hn
/-- a word of the tables, whatever the arguments -/
def jx_w (w : Cond) (s : State) : Prop := ∀ A : Array Value, w.before A s = true
/-- the constant k of the class own names the field n, d of ref -/
def jx_lk (own : String) (k : Nat) (ref n d : String) (s : State) : Prop := jx_w (.fieldLink own k ref n d) s ∨ ∃ host : String, jx_w (.fieldLinkNest own k ref n d host) s
def jx_sm (s : State) (C ref n d : String) : Prop := C = ref ∨ jx_w (.sameField ref C n d) s
theorem jx_sm.use {s : State} {C ref n d : String} (h : jx_sm s C ref n d) : ∀ x, s.fieldFound? C n d = some x → s.fieldFound? ref n d = some x := by
  rcases h with rfl | h
  · exact fun _ hx => hx
  · exact u_same (h #[])
/-- fields -/
def jx_okF (T : jx_T) (cl : List vw_C) (ow : Nat → String) (s : State) : Prop := ∀ (own k ci f : Nat), jx_fld T own k ci = some f → ∃ (r : vw_C) (ref : String), cl[ci]? = some r ∧ f < r.2.2 ∧ jx_lk (ow own) k ref (r.2.1 f).2.1 (r.2.1 f).2.2.1 s ∧ jx_sm s (r.2.1 f).1 ref (r.2.1 f).2.1 (r.2.1 f).2.2.1
/-- classes -/
def jx_okC (cl : List vw_C) (G : jx_G) (s : State) : Prop := ∀ (ci : Nat) (r : vw_C), ci < G.2.2.2.2.2 → cl[ci]? = some r → u_Kn s r.1 r.2.1 r.2.2 (G.2.2.1 ci) (G.2.2.2.1 ci) ∧ ∀ w ∈ u_ws r.1 r.2.1 r.2.2, jx_w w s
/-- what doesn't speak of a state: names of fields differ, their types, how a new object begins -/
def jx_fix (T : jx_T) (cl : List vw_C) (G : jx_G) : Prop := ∀ (ci : Nat) (r : vw_C), ci < G.2.2.2.2.2 → cl[ci]? = some r → (∀ a, a < r.2.2 → ∀ b, b < r.2.2 → a ≠ b → (r.2.1 a).2.1 ≠ (r.2.1 b).2.1) ∧ (jx_nf T ci).length = r.2.2 ∧ ∀ k, k < r.2.2 → ∃ ty, parseFieldDescriptor (r.2.1 k).2.2.1 = some ty ∧ jx_ft T ci k = some ty ∧ (jx_nf T ci)[k]? = some (defaultValue ty)
/-- arrays -/
def jx_okA (T : jx_T) (G : jx_G) (s : State) : Prop := ∀ (t : Nat) (ty : FieldType), t < 100 → jx_ty T t = some ty → ArrOfT s (G.2.2.2.2.1 t) ty ∧ va_RA s (G.2.2.2.2.1 t) ty
/-- what was there before -/
def jx_okO (T : jx_T) (cl : List vw_C) (G : jx_G) (H0 : Heap) (s : State) : Prop :=
  (∀ (j ci : Nat), jx_ocl T j = some ci → ∃ r : vw_C, cl[ci]? = some r ∧ va_O r.1 (G.2.1 j) (fun q => G.1 ≤ q) s H0 ∧ ∀ (f : Nat) (v : Value), jx_ofl T j f = some v → f < r.2.2 → va_OF (r.2.1 f).1 (r.2.1 f).2.1 (r.2.1 f).2.2.1 (jx_v G v) (G.2.1 j) (fun q => G.1 ≤ q) s H0) ∧
  ∀ (j : Nat) (x : Nat × Nat × (Nat → Value)), jx_oar T j = some x → ∀ ty : FieldType, jx_ty T x.1 = some ty → va_T ty (G.2.1 j) x.2.1 (fun i => jx_v G (x.2.2 i)) (fun q => G.1 ≤ q) s H0
section JXH
variable {p : Program} {l : Launch} {e : Env} {R : Room} {s : State} {m : MethodId} {args : Array Value} {below : List Frame} {meth : Method} {c : Code} {H H0 : Heap} {locs : List Loc} {cells slots : Nat} {Q : State → Prop}
variable {cc : ByteArray} {T : jx_T} {cl : List vw_C} {ow : Nat → String} {G : jx_G} {own k pc a : Nat} {ls : Array Slot} {rest : List Value} {h : jx_H}
theorem jx_Wget (hexec : p.tables.exec = Jvm.exec) (hb : c.code = cc) {o ref name desc : String} {index : Nat} (hown : s.vm.findClass o = some m.cls) (hlink : jx_lk o index ref name desc s)
    {cf i : Nat} {kf : Class} {f : Field} (hi : s.fieldFound? ref name desc = some (cf, kf, i, f)) (hst : f.isStatic = false) {b : Addr} {cell : Cell} {v : Value} (hcell : H[b]? = some cell) (hknown : cell.vm ≠ .unknown) (hslot : cell.slots[f.slot]? = some v) (hdg : decode cc pc = .ok (.getfield index, 3))
    (kk : W p l e R s m args below meth c H locs cells slots Q (F0 m (pc + 3) ls (v :: rest))) : W p l e R s m args below meth c H locs cells slots Q (F0 m pc ls (.ref b :: rest)) := by
  rcases hlink with hk | ⟨host, hk⟩
  · exact W.getf hexec hb hown (hk args) hi hst hcell hknown hslot rfl rfl hdg kk
  · exact va_Wgetf hexec hb hown (hk args) hi hst hcell hknown hslot rfl rfl hdg kk
/-- the cell of an object -/
theorem jx_cls_at (hC : jx_okC cl G s) (hO : jx_okO T cl G H0 s) (hr : jx_rep G cl H0 h H) {ci : Nat} (hc : jx_cls T h a = some ci) :
    ∃ (r : vw_C) (cell : Cell), cl[ci]? = some r ∧ H[jx_mu G a]? = some cell ∧ cell.vm.isStatics = false ∧ s.vm.findClass r.1 = some cell.cls := by
  unfold jx_cls at hc
  by_cases ha : a < jx_big
  · rw [if_pos ha] at hc
    split at hc
    · rename_i o ho
      cases hc
      obtain ⟨h0, r, h1, -, cell, q1, q2, q3, -⟩ := hr.2.1 a _ ho
      refine ⟨r, cell, h1, by rw [jx_mu_in G ha]; exact q1, by rw [q3]; rfl, ?_⟩
      rw [q2]
      exact (hC _ r h0 h1).1.2.1
    · cases hc
  · rw [if_neg ha] at hc
    obtain ⟨r, h1, ⟨cell, q1, q2, q3, q4⟩, -⟩ := hO.1 _ _ hc
    refine ⟨r, cell, h1, ?_, q2, q3⟩
    rw [jx_mu, if_neg ha, hr.2.2 _ (Nat.not_le.mp q4)]
    exact q1
theorem jx_s_get (hexec : p.tables.exec = Jvm.exec) (hb : c.code = cc) (hown : s.vm.findClass (ow own) = some m.cls) (hF : jx_okF T cl ow s) (hC : jx_okC cl G s) (hO : jx_okO T cl G H0 s) (hr : jx_rep G cl H0 h H) {ci f : Nat} {v : Value}
    (hc : jx_cls T h a = some ci) (hf : jx_fld T own k ci = some f) (hv : jx_get T h a f = some v) (hdg : decode cc pc = .ok (.getfield k, 3))
    (kk : W p l e R s m args below meth c H locs cells slots Q (F0 m (pc + 3) ls (jx_v G v :: rest))) : W p l e R s m args below meth c H locs cells slots Q (F0 m pc ls (.ref (jx_mu G a) :: rest)) := by
  obtain ⟨r, ref, hcl, hfN, hlk, hsm⟩ := hF own k ci f hf
  unfold jx_cls at hc
  unfold jx_get at hv
  by_cases ha : a < jx_big
  · rw [if_pos ha] at hc hv
    split at hc
    · rename_i o ho
      cases hc
      rw [ho] at hv
      obtain ⟨h0, r2, h1, hlen, cell, q1, q2, q3, q4⟩ := hr.2.1 a _ ho
      cases hcl.symm.trans h1
      obtain ⟨⟨hS, hfc, kC, hkC, hkind⟩, hws⟩ := hC _ r h0 hcl
      obtain ⟨cf, kf, fi, fd, hi, hsl⟩ := hS f hfN
      have hst := (u_facts hfc hkC (u_lays (args := args) (fun w hw => hws w hw args) (fun _ hw => hw) hfN) hi).1
      refine jx_Wget hexec hb hown hlk (hsm.use _ hi) hst (by rw [jx_mu_in G ha]; exact q1) (by rw [q3]; exact fun z => by cases z) (v := jx_v G v) ?_ hdg kk
      rw [hsl, q4 f hfN]
      have hv2 : o.2[f]? = some v := hv
      simp [vp_V, hv2]
    · cases hc
  · rw [if_neg ha] at hc hv
    obtain ⟨r2, h1, -, hfl⟩ := hO.1 _ _ hc
    cases hcl.symm.trans h1
    obtain ⟨cf2, k2, i2, f2, cell, g1, g2, g3, g4, g5, g6⟩ := hfl f v hv hfN
    refine jx_Wget hexec hb hown hlk (hsm.use _ g1) g2 (cell := cell) ?_ g4 g5 hdg kk
    rw [jx_mu, if_neg ha, hr.2.2 _ (Nat.not_le.mp g6)]
    exact g3
/-- the cell of an array -/
theorem jx_arr_at (hA : jx_okA T G s) (hO : jx_okO T cl G H0 s) (hr : jx_rep G cl H0 h H) {x : Nat × Nat × (Nat → Value)} (hx : jx_arr T h a = some x) {ty : FieldType} (hty : jx_ty T x.1 = some ty) :
    ∃ cell : Cell, H[jx_mu G a]? = some cell ∧ s.isArrayOf cell ty ∧ cell.vm ≠ .unknown ∧ x.2.1 ≤ cell.slots.size ∧ cell.slots.size.toInt32 = Int32.ofNat x.2.1 ∧ ∀ j : Nat, j < x.2.1 → cell.slots[j]? = some (jx_v G (x.2.2 j)) := by
  unfold jx_arr at hx
  by_cases ha : a < jx_big
  · rw [if_pos ha] at hx
    split at hx
    · rename_i y hy
      cases hx
      have h1 := hr.2.1 a _ hy
      refine ⟨_, by rw [jx_mu_in G ha]; exact h1.2, (hA _ _ h1.1 hty).1 _ _, fun z => (by cases z), by rw [arrV_size]; exact Nat.le_refl _, by rw [arrV_size], fun j hj => arrV_read _ _ hj⟩
    · cases hx
  · rw [if_neg ha] at hx
    obtain ⟨cell, q1, q2, q3, q4, q5, q6, q7⟩ := hO.2 _ _ hx ty hty
    refine ⟨cell, ?_, q2, q3, q4, q5, q6⟩
    rw [jx_mu, if_neg ha, hr.2.2 _ (Nat.not_le.mp q7)]
    exact q1
theorem jx_in_spec {j : Int32} {n : Nat} (h : jx_in j n = true) : ¬ j < 0 ∧ j.toNatClampNeg < n := by
  unfold jx_in at h
  simpa using h
end JXH
