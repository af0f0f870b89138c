/-! ===== the instructions that read, write and make cells ===== -/
theorem jx_vol_set (T : jx_T) {h : jx_H} {a : Nat} {x0 x : jx_C} (ha : h[a]? = some x0) (hz : jx_sz T x = jx_sz T x0) : jx_vol T (h.set a x) = jx_vol T h := by
  unfold jx_vol
  congr 1
  apply List.ext_getElem?
  intro i
  rw [List.getElem?_map, List.getElem?_map]
  by_cases hi : a = i
  · subst hi
    rw [List.getElem?_set_self ((List.getElem?_eq_some_iff.mp ha).1), ha]
    exact congrArg some hz
  · rw [List.getElem?_set_ne hi]
theorem jx_vol_push (T : jx_T) (h : jx_H) (x : jx_C) : jx_vol T (h ++ [x]) = jx_vol T h + jx_sz T x := by
  simp [jx_vol]
def jx_okN (T : jx_T) (cl : List vw_C) (ow : Nat → String) (G : jx_G) (s : State) : Prop := ∀ (own k ci : Nat), jx_nw T own k = some ci → ci < G.2.2.2.2.2 ∧ ∃ r : vw_C, cl[ci]? = some r ∧ jx_w (.classLink (ow own) k r.1) s ∧ jx_w (.instantiable r.1 (jx_ns T ci)) s ∧ jx_w (.initialized r.1) s
def jx_okY (T : jx_T) (ow : Nat → String) (s : State) : Prop := (∀ (y : ArrayType) (t : Nat), jx_ay T y = some t → t < 100 ∧ jx_ty T t = some (newarray.typeOf y) ∧ jx_w (.arrayClass (newarray.typeOf y)) s) ∧
  ∀ (own k t : Nat), jx_an T own k = some t → t < 100 ∧ ∃ C : String, jx_ty T t = some (.object C) ∧ jx_w (.classLink (ow own) k C) s ∧ jx_w (.arrayOver (.object C)) s
def jx_okM (T : jx_T) (cl : List vw_C) (ow : Nat → String) : Prop := ∀ (own ci f : Nat) (b : Bool), jx_fm T own ci f = some b → ∃ r : vw_C, cl[ci]? = some r ∧ (r.2.1 f).2.2.2 = b ∧ (b = true → (r.2.1 f).1 = ow own)
def jx_okT (T : jx_T) (cl : List vw_C) (ow : Nat → String) (s : State) : Prop := (∀ (own k ci : Nat) (b : Bool), jx_ct T own k ci = some b → ∃ (r : vw_C) (nm : String), cl[ci]? = some r ∧ jx_w (.classLink (ow own) k nm) s ∧ (b = true → (r.1 = nm ∧ ∃ cC : ClassId, ClassAt s nm cC) ∨ jx_w (.castable r.1 nm) s) ∧ (b = false → va_Nc r.1 nm s)) ∧
  ∀ (t ci : Nat), jx_tk T t ci = true → ∃ (r : vw_C) (E : String), cl[ci]? = some r ∧ jx_ty T t = some (.object E) ∧ ((r.1 = E ∧ ∃ cC : ClassId, ClassAt s E cC) ∨ jx_w (.castable r.1 E) s)
def jx_okK (T : jx_T) (ow : Nat → String) (G : jx_G) (s : State) : Prop := ∀ (own k : Nat) (v : Value), jx_kc T own k = some v → (∃ x : Int32, v = .int x ∧ jx_w (.constant (ow own) k x) s) ∨ (∃ x : Int64, v = .long x ∧ jx_w (.constantLong (ow own) k x) s) ∨ (∃ (j : Nat) (tx : String), v = .ref (jx_big + j) ∧ vk_R (ow own) k tx (G.2.1 j) s) ∨ ∃ (j : Nat) (C : String), v = .ref (jx_big + j) ∧ jx_w (.classLink (ow own) k C) s ∧ va_Mi C (G.2.1 j) s
def jx_okS (T : jx_T) (ow : Nat → String) (G : jx_G) (H0 : Heap) (s : State) : Prop := ∀ (own k : Nat) (v : Value), jx_sv T own k = some v → ∃ C n d ref : String, va_Z C n d (jx_v G v) (fun q => G.1 ≤ q) s H0 ∧ jx_lk (ow own) k ref n d s ∧ jx_sm s C ref n d
def jx_okB (T : jx_T) (ow : Nat → String) (G : jx_G) (s : State) : Prop := (∀ (own k b : Nat), jx_bi T own k = some b → (b = 0 ∧ jx_w (.methodLink (ow own) k Lib.Math.max.name) s ∧ jx_w (.static Lib.Math.max.name) s ∧ jx_w (.initialized "java/lang/Math") s ∧ jx_w (.code Lib.Math.max.name Lib.Math.max.code 2 (some .int)) s) ∨
    (b = 1 ∧ jx_w (.methodLink (ow own) k Lib.Math.min.name) s ∧ jx_w (.static Lib.Math.min.name) s ∧ jx_w (.initialized "java/lang/Math") s ∧ jx_w (.code Lib.Math.min.name Lib.Math.min.code 2 (some .int)) s) ∨
    (b = 2 ∧ jx_w (.methodLink (ow own) k arraycopyName) s ∧ jx_w (.native arraycopyName) s ∧ jx_w (.static arraycopyName) s ∧ jx_w (.initialized "java/lang/System") s) ∨
    (b = 9 ∧ jx_w (.methodLink (ow own) k ⟨"java/lang/Object", "getClass", "()Ljava/lang/Class;"⟩) s ∧ va_Dc s ∧ jx_w (.selects "[Ljava/lang/Object;" ⟨"java/lang/Object", "getClass", "()Ljava/lang/Class;"⟩ ⟨"java/lang/Object", "getClass", "()Ljava/lang/Class;"⟩) s ∧ jx_w (.instanceMethod ⟨"java/lang/Object", "getClass", "()Ljava/lang/Class;"⟩) s ∧ jx_w (.native ⟨"java/lang/Object", "getClass", "()Ljava/lang/Class;"⟩) s ∧ va_Mi "[Ljava/lang/Object;" (G.2.1 56) s ∧ jx_ty T 6 = some (.object "java/lang/Object"))) ∧
  ∀ (own k : Nat), jx_oi T own k = true → jx_w (.methodLink (ow own) k Lib.objectInit) s ∧ jx_w (.instanceMethod Lib.objectInit) s ∧ jx_w (.code Lib.objectInit ⟨#[0xb1]⟩ 1 none) s
/-- where a reference leads, two are the same only if their numbers are -/
def jx_inj (T : jx_T) (G : jx_G) : Prop := (jx_no T).1 ≤ (jx_no T).2.2 ∧ (∀ j, j < (jx_no T).2.2 → G.2.1 j < G.1) ∧ (∀ i j, i < (jx_no T).1 → j < (jx_no T).1 → G.2.1 i = G.2.1 j → i = j) ∧ ∀ i j, (jx_no T).1 ≤ i → i < (jx_no T).2.1 → (jx_no T).1 ≤ j → j < (jx_no T).2.1 → G.2.1 i = G.2.1 j → i = j
theorem jx_ne_spec {T : jx_T} {G : jx_G} (hI : jx_inj T G) {x y : Nat} (hxy : ¬ x = y) (h : jx_ne T x y = true) : jx_mu G x ≠ jx_mu G y := by
  obtain ⟨h1, h2, h3, h4⟩ := hI
  unfold jx_ne at h
  simp only [Bool.or_eq_true, Bool.and_eq_true, decide_eq_true_eq] at h
  unfold jx_mu
  by_cases hx : x < jx_big <;> by_cases hy : y < jx_big
  · rw [if_pos hx, if_pos hy]; omega
  · rw [if_pos hx, if_neg hy]
    have := h2 (y - jx_big) (by omega)
    omega
  · rw [if_neg hx, if_pos hy]
    have := h2 (x - jx_big) (by omega)
    omega
  · rw [if_neg hx, if_neg hy]
    intro z
    rcases h with h | h | h | h
    · omega
    · omega
    · have := h3 (x - jx_big) (y - jx_big) (by omega) (by omega) z
      omega
    · have := h4 (x - jx_big) (y - jx_big) (by omega) (by omega) (by omega) (by omega) z
      omega
/-- all that the tables say at a state -/
def jx_ok (T : jx_T) (cl : List vw_C) (ow : Nat → String) (G : jx_G) (H0 : Heap) (s : State) : Prop :=
  jx_okF T cl ow s ∧ jx_okC cl G s ∧ jx_fix T cl G ∧ jx_okA T G s ∧ jx_okO T cl G H0 s ∧ jx_okN T cl ow G s ∧ jx_okY T ow s ∧ jx_okM T cl ow ∧ jx_okT T cl ow s ∧ jx_okK T ow G s ∧ jx_okS T ow G H0 s ∧ jx_okB T ow G s ∧ jx_inj T G
theorem jx_v_upd (G : jx_G) (f : Nat → Value) (k : Nat) (x : Value) : (fun j => jx_v G (updV f k x j)) = updV (fun j => jx_v G (f j)) k (jx_v G x) := by
  funext j
  by_cases h : j = k
  · simp [updV, h]
  · simp [updV, h]
theorem jx_v_narrow (G : jx_G) (ty : FieldType) (v : Value) : jx_v G (narrow ty v) = narrow ty (jx_v G v) := by
  cases v <;> cases ty <;> rfl
theorem jx_v_default (G : jx_G) (ty : FieldType) : jx_v G (defaultValue ty) = defaultValue ty := by
  cases ty <;> rfl
theorem jx_v_fits (G : jx_G) (ty : FieldType) (v : Value) : fits ty (jx_v G v) = fits ty v := by
  cases v <;> cases ty <;> rfl
section JXW
variable {p : Program} {l : Launch} {e : Env} {R : Room} {s : State} {m : MethodId} {args : Array Value} {below : List Frame} {meth : Method} {c : Code} {H H0 : Heap} {locs : List Loc} {cells slots : Nat} {Q : State → Prop}
variable {cc : ByteArray} {T : jx_T} {cl : List vw_C} {ow : Nat → String} {G : jx_G} {own k pc a : Nat} {ls : Array Slot} {rest : List Value} {h : jx_H}
/-- the cells that may be written, by their addresses -/
def jx_fre (T : jx_T) (G : jx_G) (q : Nat) : Prop := ∃ a : Nat, jx_wr T a = true ∧ q = G.1 + a
theorem jx_locs_put {P : Nat → Prop} {q : Nat} (hf : ∀ z ∈ locs, P z.base) (hq : P q) (i : Nat) : ∀ z ∈ locs ++ [(⟨q, i⟩ : Loc)], P z.base := by
  intro z hz
  rcases List.mem_append.mp hz with h1 | h1
  · exact hf z h1
  · rw [List.mem_singleton.mp h1]
    exact hq
theorem jx_s_put (hexec : p.tables.exec = Jvm.exec) (hb : c.code = cc) (hown : s.vm.findClass (ow own) = some m.cls) (hF : jx_okF T cl ow s) (hC : jx_okC cl G s) (hfx : jx_fix T cl G) (hM : jx_okM T cl ow) (hr : jx_rep G cl H0 h H) (hlf : ∀ z ∈ locs, jx_fre T G z.base)
    {ci f : Nat} {fs : List Value} {v : Value} {ty : FieldType} {fin ini : Bool} (hini : ini = true → meth.name = "<init>") (ha : h[a]? = some (.inr (ci, fs))) (hf : jx_fld T own k ci = some f) (hty : jx_ft T ci f = some ty) (hfm : jx_fm T own ci f = some fin) (hbig : a < jx_big) (hwr : jx_wr T a = true) (hfit : fits ty v = true) (hfi : (!fin || ini) = true) (hdg : decode cc pc = .ok (.putfield k, 3))
    (kk : ∀ (H1 : Heap) (locs1 : List Loc), jx_rep G cl H0 (h.set a (.inr (ci, fs.set f v))) H1 → (∀ z ∈ locs1, jx_fre T G z.base) → W p l e R s m args below meth c H1 locs1 cells slots Q (F0 m (pc + 3) ls rest)) : W p l e R s m args below meth c H locs cells slots Q (F0 m pc ls (jx_v G v :: .ref (jx_mu G a) :: rest)) := by
  obtain ⟨r, ref, hcl, hfN, hlk, hsm⟩ := hF own k ci f hf
  obtain ⟨h0, r2, h1, hlen, cell, q1, q2, q3, q4⟩ := hr.2.1 a _ ha
  cases hcl.symm.trans h1
  obtain ⟨⟨hS, hfc, kC, hkC, hkind⟩, hws⟩ := hC ci r h0 hcl
  obtain ⟨hnm, -, htys⟩ := hfx ci r h0 hcl
  obtain ⟨r3, hcl3, hfin, hfo⟩ := hM own ci f fin hfm
  cases hcl.symm.trans hcl3
  obtain ⟨ty2, hd, hty2, -⟩ := htys f hfN
  cases hty.symm.trans hty2
  obtain ⟨cf, kf, fi, fd, hi, hsl⟩ := hS f hfN
  have hlay := u_lays (args := args) (fun w hw => hws w hw args) (fun _ hw => hw) hfN
  have hst := (u_facts hfc hkC hlay hi).1
  have hft2 : fits ty (jx_v G v) = true := by rw [jx_v_fits]; exact hfit
  have hnr : narrow ty (jx_v G v) = jx_v G v := narrow_of_fits hft2
  have hSS := u_fits hfc hkC hkind hlay hi hd hnr hft2
  have hap : ∀ x y, x < r.2.2 → y < r.2.2 → x ≠ y → (G.2.2.2.1 ci) x ≠ (G.2.2.2.1 ci) y := by
    intro x y hx hy hne
    obtain ⟨_, _, _, fa, hia, ea⟩ := hS x hx
    obtain ⟨_, _, _, fb, hib, eb⟩ := hS y hy
    rw [← ea, ← eb]
    obtain ⟨tx, htx, -⟩ := htys x hx
    obtain ⟨ty', hty', -⟩ := htys y hy
    refine u_apart (u_lays (args := args) (fun w hw => hws w hw args) (fun _ hw => hw) hx) (u_lays (args := args) (fun w hw => hws w hw args) (fun _ hw => hw) hy) hia hib ?_
    rw [(State.fieldFound?_type hia htx).1, (State.fieldFound?_type hib hty').1]
    exact hnm x hx y hy hne
  have hlt : fd.slot < cell.slots.size := by rw [hsl]; exact k2_hasslot (q4 f hfN)
  have hfinal : hasFlag fd.accessFlags Acc.final = false ∨ (m.cls = cf ∧ meth.name = "<init>") := by
    cases fin with
    | false =>
      have hlay2 := hws _ (u_in_lay hfN) args
      unfold u_lay at hlay2
      rw [if_neg (by rw [hfin]; decide)] at hlay2
      exact Or.inl (u_store hfc hkC hkind hlay2 hi hd hnr hft2).1
    | true =>
      have hlay2 := hws _ (u_in_lay hfN) args
      unfold u_lay at hlay2
      rw [if_pos hfin] at hlay2
      refine Or.inr ⟨?_, hini (by simpa using hfi)⟩
      obtain ⟨_, _, c', _, _, _, -, -, hf', -, hown2, -⟩ := Cond.laid_spec (final := true) hlay2
      have e1 : c' = cf := by have := hi.symm.trans hf'; simp at this; exact this.1.symm
      rw [← e1]
      rw [hfo rfl] at hown2
      exact Option.some.inj (hown.symm.trans hown2)
  have hkn : cell.vm ≠ .unknown := by rw [q3]; exact fun z => by cases z
  have hmu := jx_mu_in G hbig
  rw [hmu]
  have hsz : G.1 + a < H.size := (Array.getElem?_eq_some_iff.mp q1).1
  have fin2 : W p l e R s m args below meth c (H.setIfInBounds (G.1 + a) (cell.setSlot fd.slot (jx_v G v))) (locs ++ [⟨G.1 + a, fd.slot⟩]) cells slots Q (F0 m (pc + 3) ls rest) := by
    refine kk _ _ (hr.set ha (by simp) ?_ ?_) (jx_locs_put hlf ⟨a, hwr, rfl⟩ _)
    · refine ⟨h0, r, hcl, by rw [List.length_set]; exact hlen, cell.setSlot fd.slot (jx_v G v), by simp [Array.getElem?_setIfInBounds, hsz], q2, q3, fun j hj => ?_⟩
      show (cell.setSlot fd.slot (jx_v G v)).slots[G.2.2.2.1 ci j]? = some (jx_v G (vp_V (fs.set f v) j))
      by_cases hjf : j = f
      · subst hjf
        rw [← hsl]
        rw [Cell.slots_setSlot_self (jx_v G v) hlt]
        have hl2 : j < fs.length := by rw [show fs.length = r.2.2 from hlen]; exact hfN
        simp [vp_V, hl2]
      · rw [slot_ne _ _ (by rw [hsl]; exact hap f j hfN hj (fun z => hjf z.symm)), q4 j hj]
        have hne : f ≠ j := fun z => hjf z.symm
        simp [vp_V, List.getD_eq_getElem?_getD, List.getElem?_set_ne hne]
    · intro q hq
      simp [Array.getElem?_setIfInBounds, Ne.symm hq]
  rcases hlk with hk2 | ⟨host, hk2⟩
  · exact W.putf hexec hb hown (hk2 args) (hsm.use _ hi) hst hfinal q1 hkn hlt hSS.1 (by rw [q2, q3]; exact hSS.2) rfl rfl hdg fin2
  · exact va_Wputf hexec hb hown (hk2 args) (hsm.use _ hi) hst hfinal q1 hkn hlt hSS.1 (by rw [q2, q3]; exact hSS.2) rfl rfl hdg fin2
theorem jx_s_new (hexec : p.tables.exec = Jvm.exec) (hb : c.code = cc) (hown : s.vm.findClass (ow own) = some m.cls) (hC : jx_okC cl G s) (hfx : jx_fix T cl G) (hN : jx_okN T cl ow G s) (hr : jx_rep G cl H0 h H) {ci : Nat} (hn : jx_nw T own k = some ci) (hbig : h.length < jx_big)
    (hcells : cells + 1 ≤ R.cells) (hslots : slots + jx_ns T ci ≤ R.slots) (hdg : decode cc pc = .ok (.new k, 3))
    (kk : ∀ H1 : Heap, jx_rep G cl H0 (h ++ [.inr (ci, jx_nf T ci)]) H1 → W p l e R s m args below meth c H1 locs (cells + 1) (slots + jx_ns T ci) Q (F0 m (pc + 3) ls (.ref (jx_mu G h.length) :: rest))) : W p l e R s m args below meth c H locs cells slots Q (F0 m pc ls rest) := by
  obtain ⟨h0, r, hcl, hw1, hw2, hw3⟩ := hN own k ci hn
  obtain ⟨hKn, hws⟩ := hC ci r h0 hcl
  obtain ⟨-, hnf, htys⟩ := hfx ci r h0 hcl
  refine W.newcK hexec hb hown (hw1 args) (hw2 args) (hw3 args) rfl hdg hcells hslots hKn.2.1 rfl fun H1 kC hkC e1 z1 o1 => ?_
  have hmu : jx_mu G h.length = H.size := by rw [jx_mu_in G hbig, hr.1]
  rw [hmu] at kk
  refine kk H1 (hr.push z1 ⟨h0, r, hcl, hnf, ?_⟩ o1)
  rw [← hr.1]
  refine ⟨_, e1, rfl, rfl, fun j hj => ?_⟩
  obtain ⟨ty, g1, g2, g3⟩ := htys j hj
  obtain ⟨cf, kf, fi, fd, hi, hsl⟩ := hKn.1 j hj
  have h3 := (u_facts hKn.2.1 hkC (u_lays (args := args) (fun w hw => hws w hw args) (fun _ hw => hw) hj) hi).2.2
  rw [(State.fieldFound?_type hi g1).2] at h3
  rw [← hsl]
  have h5 : vp_V (jx_nf T ci) j = defaultValue ty := by simp [vp_V, g3]
  show _ = some (jx_v G (vp_V (jx_nf T ci) j))
  rw [h5, jx_v_default]
  exact k2_blank h3
theorem jx_s_newa (hexec : p.tables.exec = Jvm.exec) (hb : c.code = cc) (hY : jx_okY T ow s) (hA : jx_okA T G s) (hr : jx_rep G cl H0 h H) {y : ArrayType} {t : Nat} {n : Int32} (hy : jx_ay T y = some t) (hbig : h.length < jx_big) (hn : ¬ n < 0) (hle : n.toNatClampNeg ≤ 60000000)
    (hcells : cells + 1 ≤ R.cells) (hslots : slots + n.toNatClampNeg ≤ R.slots) (hdg : decode cc pc = .ok (.newarray y, 2))
    (kk : ∀ H1 : Heap, jx_rep G cl H0 (h ++ [.inl (t, n.toNatClampNeg, fun _ => defaultValue (newarray.typeOf y))]) H1 → W p l e R s m args below meth c H1 locs (cells + 1) (slots + n.toNatClampNeg) Q (F0 m (pc + 2) ls (.ref (jx_mu G h.length) :: rest))) : W p l e R s m args below meth c H locs cells slots Q (F0 m pc ls (.int n :: rest)) := by
  obtain ⟨ht, h1, h2⟩ := hY.1 y t hy
  refine va_newaK hexec hb (h2 args) rfl hdg rfl hn rfl ?_ hcells hslots rfl fun H1 cA e1 z1 o1 hAr hNm => ?_
  · have : componentBytes (newarray.typeOf y) ≤ 8 := by cases y <;> decide
    calc n.toNatClampNeg * componentBytes (newarray.typeOf y) ≤ 60000000 * 8 := Nat.mul_le_mul hle this
      _ ≤ 536870912 := by decide
  · have hmu : jx_mu G h.length = H.size := by rw [jx_mu_in G hbig, hr.1]
    rw [hmu] at kk
    refine kk H1 (hr.push z1 ?_ o1)
    have hra := (hA t _ ht h1).2
    have hid : cA = G.2.2.2.2.1 t := by
      have h3 : s.vm.findClass ("[" ++ (newarray.typeOf y).toString) = some (G.2.2.2.2.1 t) := by cases y <;> exact hra
      exact Option.some.inj (hNm.symm.trans h3)
    refine ⟨ht, ?_⟩
    show H1[G.1 + h.length]? = some (arrV (G.2.2.2.2.1 t) _ (fun j => jx_v G (defaultValue (newarray.typeOf y))))
    rw [← hr.1, ← hid, jx_v_default]
    exact e1
theorem jx_s_anew (hexec : p.tables.exec = Jvm.exec) (hb : c.code = cc) (hown : s.vm.findClass (ow own) = some m.cls) (hY : jx_okY T ow s) (hA : jx_okA T G s) (hr : jx_rep G cl H0 h H) {t : Nat} {n : Int32} (hy : jx_an T own k = some t) (hbig : h.length < jx_big) (hn : ¬ n < 0) (hle : n.toNatClampNeg ≤ 60000000)
    (hcells : cells + 1 ≤ R.cells) (hslots : slots + n.toNatClampNeg ≤ R.slots) (hdg : decode cc pc = .ok (.anewarray k, 3))
    (kk : ∀ H1 : Heap, jx_rep G cl H0 (h ++ [.inl (t, n.toNatClampNeg, fun _ => .null)]) H1 → W p l e R s m args below meth c H1 locs (cells + 1) (slots + n.toNatClampNeg) Q (F0 m (pc + 3) ls (.ref (jx_mu G h.length) :: rest))) : W p l e R s m args below meth c H locs cells slots Q (F0 m pc ls (.int n :: rest)) := by
  obtain ⟨ht, C, h1, h2, h3⟩ := hY.2 own k t hy
  refine W.anew hexec hb hown (h2 args) (h3 args) rfl hdg rfl hn (by omega) hcells hslots fun cA kA comp g1 g2 g3 g4 => ?_
  have hmu : jx_mu G h.length = H.size := by rw [jx_mu_in G hbig, hr.1]
  rw [hmu] at kk
  obtain ⟨kA2, comp2, r1, r2, r3, r4⟩ := (hA t _ ht h1).2
  have hid : cA = G.2.2.2.2.1 t := Option.some.inj (g1.symm.trans r4)
  refine kk _ (hr.push (by simp) ?_ (fun q hq => by rw [Array.getElem?_push, if_neg (Nat.ne_of_lt hq)]))
  refine ⟨ht, ?_⟩
  show (H.push _)[G.1 + h.length]? = some (arrV (G.2.2.2.2.1 t) _ (fun j => jx_v G .null))
  rw [← hr.1, ← hid, arrV_new]
  simp [jx_v_null]
end JXW
