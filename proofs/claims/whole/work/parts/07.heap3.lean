/-! ===== one instruction that goes on within its frame ===== -/
theorem jx_ald_some {T : jx_T} {ok : FieldType → Bool} {pc : Nat} {lo : jx_L} {st : List Value} {h : jx_H} {F : jx_F} (hg : jx_ald T ok pc lo st h = some (.inl F)) :
    ∃ (j : Int32) (a : Nat) (r : List Value) (x : Nat × Nat × (Nat → Value)) (ty : FieldType), st = .int j :: .ref a :: r ∧ jx_arr T h a = some x ∧ jx_ty T x.1 = some ty ∧ ok ty = true ∧ jx_in j x.2.1 = true ∧ F = (pc + 1, lo, x.2.2 j.toNatClampNeg :: r, h) := by
  unfold jx_ald at hg
  split at hg
  · rename_i j a r
    split at hg
    · rename_i t n f hx
      split at hg
      · rename_i ty hty
        split at hg
        · rename_i hc
          obtain ⟨h1, h2⟩ := (Bool.and_eq_true _ _).mp hc
          cases hg
          exact ⟨j, a, r, (t, n, f), ty, rfl, hx, hty, h1, h2, rfl⟩
        · cases hg
      · cases hg
    · cases hg
  · cases hg
theorem jx_ast_some {T : jx_T} {ok : FieldType → Bool} {v : Value} {j : Int32} {a pc : Nat} {lo : jx_L} {r : List Value} {h : jx_H} {F : jx_F} (hg : jx_ast T ok v j a pc lo r h = some (.inl F)) :
    ∃ (x : Nat × Nat × (Nat → Value)) (ty : FieldType), h[a]? = some (.inl x) ∧ jx_ty T x.1 = some ty ∧ a < jx_big ∧ jx_wr T a = true ∧ ok ty = true ∧ jx_in j x.2.1 = true ∧ F = (pc + 1, lo, r, h.set a (.inl (x.1, x.2.1, updV x.2.2 j.toNatClampNeg (narrow ty v)))) := by
  unfold jx_ast at hg
  split at hg
  · rename_i t n f hx
    split at hg
    · rename_i ty hty
      split at hg
      · rename_i hc
        obtain ⟨h1, h2⟩ := (Bool.and_eq_true _ _).mp hc
        obtain ⟨h2, h3⟩ := (Bool.and_eq_true _ _).mp h2
        obtain ⟨h3, h4⟩ := (Bool.and_eq_true _ _).mp h3
        cases hg
        exact ⟨(t, n, f), ty, hx, hty, of_decide_eq_true h1, h2, h3, h4, rfl⟩
      · cases hg
    · cases hg
  · cases hg
theorem jx_more_some {h : jx_H} {x : jx_C} {pc : Nat} {lo : jx_L} {r : List Value} {F : jx_F} (hg : jx_more h x pc lo r = some (.inl F)) : h.length < jx_big ∧ F = (pc, lo, .ref h.length :: r, h ++ [x]) := by
  unfold jx_more at hg
  split at hg
  · rename_i hc
    cases hg
    exact ⟨hc, rfl⟩
  · cases hg
theorem jx_newa_some {T : jx_T} {t : Nat} {n : Int32} {v : Value} {h : jx_H} {pc : Nat} {lo : jx_L} {r : List Value} {F : jx_F} (hg : jx_newa T t n v pc lo r h = some (.inl F)) :
    ¬ n < 0 ∧ n.toNatClampNeg ≤ 60000000 ∧ h.length < jx_big ∧ F = (pc, lo, .ref h.length :: r, h ++ [.inl (t, n.toNatClampNeg, fun _ => v)]) := by
  unfold jx_newa at hg
  split at hg
  · rename_i hc
    obtain ⟨h1, h2⟩ := jx_more_some hg
    have hc2 : ¬ n < 0 ∧ n.toNatClampNeg ≤ 60000000 := by simpa using hc
    exact ⟨hc2.1, hc2.2, h1, h2⟩
  · cases hg
section JXA
variable {p : Program} {l : Launch} {e : Env} {R : Room} {s : State} {m : MethodId} {args : Array Value} {below : List Frame} {meth : Method} {c : Code} {H H0 : Heap} {locs : List Loc} {cells slots : Nat} {Q : State → Prop}
variable {cc : ByteArray} {T : jx_T} {cl : List vw_C} {ow : Nat → String} {G : jx_G} {own k pc a : Nat} {ls : Array Slot} {rest : List Value} {h : jx_H}
/-- a store into an array of the run's own: what is wanted of the row, and what it gives -/
theorem jx_ast_rep (hr : jx_rep G cl H0 h H) {x : Nat × Nat × (Nat → Value)} (hx : h[a]? = some (.inl x)) {j : Nat} {w : Value} {H1 : Heap} (e1 : H1[G.1 + a]? = some ((arrV (G.2.2.2.2.1 x.1) x.2.1 (fun i => jx_v G (x.2.2 i))).setSlot j (jx_v G w))) (z : H1.size = H.size) (oq : ∀ q, q ≠ G.1 + a → H1[q]? = H[q]?) :
    jx_rep G cl H0 (h.set a (.inl (x.1, x.2.1, updV x.2.2 j w))) H1 := by
  refine hr.set hx z ⟨(hr.2.1 a _ hx).1, ?_⟩ oq
  show H1[G.1 + a]? = some (arrV _ _ (fun i => jx_v G (updV x.2.2 j w i)))
  rw [e1, arrV_store, jx_v_upd]
/-- a value that goes into an array of references -/
theorem jx_s_aast (hexec : p.tables.exec = Jvm.exec) (hb : c.code = cc) (hC : jx_okC cl G s) (hA : jx_okA T G s) (hO : jx_okO T cl G H0 s) (hT : jx_okT T cl ow s) (hr : jx_rep G cl H0 h H) (hlf : ∀ z ∈ locs, jx_fre T G z.base) {x : Nat × Nat × (Nat → Value)} {ty : FieldType} {v : Value} {j : Int32}
    (hx : h[a]? = some (.inl x)) (hty : jx_ty T x.1 = some ty) (hbig : a < jx_big) (hwr : jx_wr T a = true) (hrt : jx_isRefTy ty = true) (hin : jx_in j x.2.1 = true) (hmay : jx_may T h x.1 v = true) (hdg : decode cc pc = .ok (.aastore, 1))
    (kk : ∀ (H1 : Heap) (locs1 : List Loc), jx_rep G cl H0 (h.set a (.inl (x.1, x.2.1, updV x.2.2 j.toNatClampNeg (narrow ty v)))) H1 → (∀ z ∈ locs1, jx_fre T G z.base) → W p l e R s m args below meth c H1 locs1 cells slots Q (F0 m (pc + 1) ls rest)) : W p l e R s m args below meth c H locs cells slots Q (F0 m pc ls (jx_v G v :: .int j :: .ref (jx_mu G a) :: rest)) := by
  obtain ⟨i1, i2⟩ := jx_in_spec hin
  have hlt := (hr.2.1 a _ hx).1
  have hcell := (hr.2.1 a _ hx).2
  have hcell : H[G.1 + a]? = some (arrV (G.2.2.2.2.1 x.1) x.2.1 (fun i => jx_v G (x.2.2 i))) := hcell
  rw [jx_mu_in G hbig]
  cases ty with
  | object E =>
    have hnr : narrow (.object E) v = v := by cases v <;> rfl
    rw [hnr] at kk
    cases v with
    | null =>
      refine va_WaastN (C := E) hexec hb hcell ((hA _ _ hlt hty).1 _ _) (fun z => by cases z) (by rw [arrV_size]; rintro (q | q); exact i1 q; omega) rfl rfl hdg fun H1 e1 z oq => ?_
      exact kk H1 _ (jx_ast_rep (w := .null) hr hx e1 z oq) (jx_locs_put hlf ⟨a, hwr, rfl⟩ _)
    | ref b =>
      dsimp only [jx_may] at hmay
      split at hmay
      · rename_i ci hci
        obtain ⟨r, cv, g1, g2, g3, g4⟩ := jx_cls_at hC hO hr hci
        obtain ⟨r2, E2, q1, q2, q3⟩ := hT.2 _ _ hmay
        cases g1.symm.trans q1
        cases hty.symm.trans q2
        obtain ⟨kA, comp, r1, r2', r3, r4⟩ := (hA _ _ hlt hty).2
        obtain ⟨c3, c4, f1, f2, f3⟩ : ∃ c3 c4 : ClassId, s.vm.findClass r.1 = some c3 ∧ s.vm.findClass E = some c4 ∧ s.vm.assignable c3 c4 = true := by
          rcases q3 with ⟨e1, cC, hat⟩ | q3
          · exact ⟨cC, cC, by rw [e1]; exact hat.1, hat.1, va_assign hat⟩
          · exact Cond.castable_spec (q3 args)
        cases g4.symm.trans f1
        cases r3.symm.trans f2
        obtain ⟨kv, hkv, -⟩ := Vm.findClass_spec g4
        obtain ⟨kc, hkc, -⟩ := Vm.findClass_spec r3
        refine W.aast (v := jx_mu G b) hexec hb hcell (fun q z => by cases z) (fun z => by cases z) r1 r2' rfl hkc (by rw [arrV_size]; exact ⟨i1, i2⟩) g2 (fun q => VmData.ne_statics_of g3 q) hkv f3 rfl rfl hdg fun H1 e1 z oq => ?_
        exact kk H1 _ (jx_ast_rep (w := .ref b) hr hx e1 z oq) (jx_locs_put hlf ⟨a, hwr, rfl⟩ _)
      · cases hmay
    | int x => cases hmay
    | long x => cases hmay
    | float x => cases hmay
    | double x => cases hmay
    | retAddr x => cases hmay
  | byte => cases hrt
  | char => cases hrt
  | double => cases hrt
  | float => cases hrt
  | int => cases hrt
  | long => cases hrt
  | short => cases hrt
  | boolean => cases hrt
  | array t => cases hrt
theorem jx_cpy_some {n dp sp : Int32} {a0 : Nat} {lo : jx_L} {r : List Value} {F : jx_F} (hg : jx_cpy T n dp a sp a0 pc lo r h = some (.inl F)) :
    ∃ (x y : Nat × Nat × (Nat → Value)) (ty : FieldType), h[a]? = some (.inl x) ∧ jx_arr T h a0 = some y ∧ jx_ty T x.1 = some ty ∧ y.1 = x.1 ∧ a < jx_big ∧ jx_wr T a = true ∧ ¬ sp < 0 ∧ ¬ dp < 0 ∧ ¬ n < 0 ∧ sp.toNatClampNeg + n.toNatClampNeg ≤ y.2.1 ∧ dp.toNatClampNeg + n.toNatClampNeg ≤ x.2.1 ∧ jx_wt r = true ∧ (∀ i, i < n.toNatClampNeg → jx_cpok T h x.1 ty (y.2.2 (sp.toNatClampNeg + i)) = true) ∧ F = (pc + 3, lo, r, h.set a (.inl (x.1, x.2.1, va_cpy y.2.2 x.2.2 sp.toNatClampNeg dp.toNatClampNeg n.toNatClampNeg))) := by
  unfold jx_cpy at hg
  split at hg
  · rename_i t n1 g hx
    split at hg
    · rename_i t0 n0 f hy
      split at hg
      · rename_i ty hty
        split at hg
        · rename_i hc
          simp only [Bool.and_eq_true, decide_eq_true_eq, Bool.not_eq_true', decide_eq_false_iff_not, List.all_eq_true, List.mem_range] at hc
          obtain ⟨d1, d2, d3, d4, d5, d6, d7, d8, d9, d10⟩ := hc
          cases hg
          exact ⟨(t, n1, g), (t0, n0, f), ty, hx, hy, hty, d1, d2, d3, d4, d5, d6, d7, d8, d9, d10, rfl⟩
        · cases hg
      · cases hg
    · cases hg
  · cases hg
theorem jx_gcl_some {b : Nat} {lo : jx_L} {r : List Value} {F : jx_F} (hg : jx_gcl b a pc lo r h = some (.inl F)) : ∃ x : Nat × Nat × (Nat → Value), h[a]? = some (.inl x) ∧ x.1 + 3 = b ∧ a < jx_big ∧ jx_wt r = true ∧ F = (pc + 3, lo, .ref (jx_big + 56) :: r, h) := by
  unfold jx_gcl at hg
  split at hg
  · rename_i t y hx
    split at hg
    · rename_i hc
      simp only [Bool.and_eq_true, decide_eq_true_eq] at hc
      cases hg
      exact ⟨(t, y), hx, hc.1, hc.2.1, hc.2.2, rfl⟩
    · cases hg
  · cases hg
theorem jx_s_cpy (hexec : p.tables.exec = Jvm.exec) (hb : c.code = cc) (hml : c.maxLocals = ls.size) {idx : Nat} (hown : s.vm.findClass (ow own) = some m.cls) (hlink : (Cond.methodLink (ow own) idx arraycopyName).before args s = true) (hnat : (Cond.native arraycopyName).before args s = true) (hstat : (Cond.static arraycopyName).before args s = true) (hini : (Cond.initialized "java/lang/System").before args s = true)
    (hC : jx_okC cl G s) (hA : jx_okA T G s) (hO : jx_okO T cl G H0 s) (hT : jx_okT T cl ow s) (hr : jx_rep G cl H0 h H) (hlf : ∀ z ∈ locs, jx_fre T G z.base) {x y : Nat × Nat × (Nat → Value)} {ty : FieldType} {a0 : Nat} {sp dp n : Int32}
    (hx : h[a]? = some (.inl x)) (hy : jx_arr T h a0 = some y) (hty : jx_ty T x.1 = some ty) (h01 : y.1 = x.1) (hbig : a < jx_big) (hwr : jx_wr T a = true) (h1 : ¬ sp < 0) (h2 : ¬ dp < 0) (h3 : ¬ n < 0) (h4 : sp.toNatClampNeg + n.toNatClampNeg ≤ y.2.1) (h5 : dp.toNatClampNeg + n.toNatClampNeg ≤ x.2.1) (hok : ∀ i, i < n.toNatClampNeg → jx_cpok T h x.1 ty (y.2.2 (sp.toNatClampNeg + i)) = true)
    (hframes : 1 ≤ R.frames) (hlocals : (rest.map fun v => v.category).sum + (nativeFrameWords "java/lang/System" "arraycopy" 5 + 11) ≤ R.locals) (hdg : decode cc pc = .ok (.invokestatic idx, 3))
    (kk : ∀ (H1 : Heap) (locs1 : List Loc), jx_rep G cl H0 (h.set a (.inl (x.1, x.2.1, va_cpy y.2.2 x.2.2 sp.toNatClampNeg dp.toNatClampNeg n.toNatClampNeg))) H1 → (∀ z ∈ locs1, jx_fre T G z.base) → W p l e R s m args below meth c H1 locs1 cells slots Q (F0 m (pc + 3) ls rest)) : W p l e R s m args below meth c H locs cells slots Q (F0 m pc ls (.int n :: .int dp :: .ref (jx_mu G a) :: .int sp :: .ref (jx_mu G a0) :: rest)) := by
  have nn : ∀ z : Int32, ¬ z < 0 → z.toInt = (z.toNatClampNeg : Int) := by
    intro z hz
    have hz0 : (0 : Int) ≤ z.toInt := by
      have := Int32.not_lt.mp hz
      simpa using Int32.le_iff_toInt_le.mp this
    show z.toInt = ((z.toInt.toNat : Nat) : Int)
    omega
  have hlt := (hr.2.1 a _ hx).1
  have hcell : H[G.1 + a]? = some (arrV (G.2.2.2.2.1 x.1) x.2.1 (fun i => jx_v G (x.2.2 i))) := (hr.2.1 a _ hx).2
  obtain ⟨scr, s1, ⟨s21, ks, hks, cmS, hsk⟩, s3, s4, s5, s6⟩ := jx_arr_at hA hO hr hy (by rw [h01]; exact hty)
  obtain ⟨d1, kd, hkd, cmD, hdk⟩ := (hA _ _ hlt hty).1 x.2.1 (fun i => jx_v G (x.2.2 i))
  rw [jx_mu_in G hbig]
  intro U hU X
  obtain ⟨vm', X', step⟩ := X.arraycopy hexec hown hlink hnat hstat hini (src := jx_mu G a0) (dst := G.1 + a) (cs := scr) (cd := arrV (G.2.2.2.2.1 x.1) x.2.1 (fun i => jx_v G (x.2.2 i))) (srcPos := sp) (destPos := dp) (n := n) (by rw [hU]; exact s1) (by rw [hU]; exact hcell)
    s21 d1 s3 (fun z => by cases z) hks hkd hsk hdk (by cases ty <;> simp [refKind]) h1 h2 h3
    (by rw [nn sp h1, nn n h3]; omega)
    (by rw [nn dp h2, nn n h3]; show ¬ _ > ((arrV _ x.2.1 (fun j => jx_v G (x.2.2 j))).slots.size : Int); rw [arrV_size]; omega)
    (fun vm₁ hal i hi => by
      have e : scr.slots.getD (sp.toNatClampNeg + i) .null = jx_v G (y.2.2 (sp.toNatClampNeg + i)) := by
        rw [Array.getD_eq_getD_getElem?, s6 _ (by omega)]
        rfl
      rw [e]
      have ho := hok i hi
      unfold jx_cpok at ho
      obtain ⟨o1, o2⟩ := (Bool.and_eq_true _ _).mp ho
      refine ⟨by rw [jx_v_fits]; exact o1, ?_⟩
      cases hv : y.2.2 (sp.toNatClampNeg + i) with
      | ref b =>
        rw [hv] at o2
        dsimp only [jx_may] at o2
        split at o2
        · rename_i ci hci
          obtain ⟨r, cv, g1, g2, g3, g4⟩ := jx_cls_at hC hO hr hci
          obtain ⟨r2, E2, q1, q2, q3⟩ := hT.2 _ _ o2
          cases g1.symm.trans q1
          cases hty.symm.trans q2
          obtain ⟨kA, comp, r1, r2', r3, r4⟩ := (hA _ _ hlt hty).2
          obtain ⟨c3, c4, f1, f2, f3⟩ : ∃ c3 c4 : ClassId, s.vm.findClass r.1 = some c3 ∧ s.vm.findClass E2 = some c4 ∧ s.vm.assignable c3 c4 = true := by
            rcases q3 with ⟨e1, cC, hat⟩ | q3
            · exact ⟨cC, cC, by rw [e1]; exact hat.1, hat.1, va_assign hat⟩
            · exact Cond.castable_spec (q3 args)
          cases g4.symm.trans f1
          cases r3.symm.trans f2
          cases hkd.symm.trans r1
          cases hdk.symm.trans r2'
          obtain ⟨kv, hkv, -⟩ := Vm.findClass_spec g4
          obtain ⟨kc, hkc, -⟩ := Vm.findClass_spec r3
          obtain ⟨kv', hkv', -⟩ := hal.2.2 _ _ hkv
          obtain ⟨kc', hkc', -⟩ := hal.2.2 _ _ hkc
          refine ⟨cv, (show U.heap[jx_mu G b]? = some cv by rw [hU]; exact g2), fun q => VmData.ne_statics_of g3 q, ⟨kv', hkv'⟩, ⟨kc', hkc'⟩, ?_⟩
          show vm₁.assignable _ _ = true
          rw [hal.assignable]
          exact f3
        · cases o2
      | int z => trivial
      | long z => trivial
      | float z => trivial
      | double z => trivial
      | null => trivial
      | retAddr z => trivial)
    (g := F0 m pc ls (.int n :: .int dp :: .ref (G.1 + a) :: .int sp :: .ref (jx_mu G a0) :: rest)) rfl (by rw [hml]) (rest := rest) rfl (by rw [hb]; exact hdg) hframes (by show 2 * 0 + _ + _ ≤ _; omega)
  have e1 : copied scr (arrV (G.2.2.2.2.1 x.1) x.2.1 (fun i => jx_v G (x.2.2 i))) sp dp n = arrV (G.2.2.2.2.1 x.1) x.2.1 (fun i => jx_v G (va_cpy y.2.2 x.2.2 sp.toNatClampNeg dp.toNatClampNeg n.toNatClampNeg i)) := va_copiedX (jx_v G) scr _ y.2.2 x.2.2 s6 h4
  rw [e1] at X' step
  have hlz : G.1 + a < H.size := (Array.getElem?_eq_some_iff.mp hcell).1
  obtain ⟨nc, hnc⟩ : ∃ nc : Cell, nc = arrV (G.2.2.2.2.1 x.1) x.2.1 (fun i => jx_v G (va_cpy y.2.2 x.2.2 sp.toNatClampNeg dp.toNatClampNeg n.toNatClampNeg i)) := ⟨_, rfl⟩
  rw [← hnc] at X' step
  have hheap : ((U.setVm vm').setCell (G.1 + a) nc).heap = H.setIfInBounds (G.1 + a) nc := by rw [← hU]; rfl
  obtain ⟨t, a1, b1⟩ := kk _ _ (hr.set hx (H1 := H.setIfInBounds (G.1 + a) nc) (by simp) ⟨hlt, by simp [Array.getElem?_setIfInBounds, hlz, hnc]⟩ (fun q hq => by simp [Array.getElem?_setIfInBounds, Ne.symm hq])) (fun z hz => by
      rcases List.mem_append.mp hz with hz | hz
      · exact hlf z hz
      · obtain ⟨w, -, hw⟩ := List.mem_map.mp hz
        rw [← hw]
        exact ⟨a, hwr, rfl⟩) _ hheap X'
  exact ⟨t, step t a1, b1⟩
end JXA
