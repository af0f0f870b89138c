/-! ===== one instruction, whatever it is, that goes on within its frame ===== -/
section JXALL
variable {p : Program} {l : Launch} {e : Env} {R : Room} {s : State} {m : MethodId} {args : Array Value} {below : List Frame} {meth : Method} {c : Code} {H H0 : Heap} {locs : List Loc} {Q : State → Prop}
variable {cc : ByteArray} {T : jx_T} {cl : List vw_C} {ow : Nat → String} {G : jx_G} {own pc : Nat} {ls : Array Slot} {h : jx_H} {cd : Nat → Option Instr} {rt : Option FieldType × Bool} {i : Instr} {lo : jx_L} {st : List Value} {F : jx_F}
set_option maxHeartbeats 8000000 in
theorem jx_s_all (hexec : p.tables.exec = Jvm.exec) (hb : c.code = cc) (hown : s.vm.findClass (ow own) = some m.cls) (hok : jx_ok T cl ow G H0 s) {nL n0 v0 : Nat} (hml : c.maxLocals = nL) (hini : rt.2 = true → meth.name = "<init>") (hR : 1 ≤ R.frames ∧ 30 ≤ R.locals)
    (hdec : ∃ len, decode cc pc = .ok (i, len) ∧ (jx_isSwitch i = false → len = jx_len i)) (hl : jx_ls G nL ls lo) (hr : jx_rep G cl H0 h H) (hlf : ∀ z ∈ locs, jx_fre T G z.base) (hn0 : n0 ≤ h.length) (hv0 : v0 ≤ jx_vol T h)
    (hdo : jx_do T cd own pc rt i lo st h = some (.inl F)) (hroom : F.2.2.2.length - n0 ≤ R.cells ∧ jx_vol T F.2.2.2 - v0 ≤ R.slots)
    (kk : ∀ (H1 : Heap) (ls1 : Array Slot) (locs1 : List Loc), jx_rep G cl H0 F.2.2.2 H1 → jx_ls G nL ls1 F.2.1 → (∀ z ∈ locs1, jx_fre T G z.base) → W p l e R s m args below meth c H1 locs1 (F.2.2.2.length - n0) (jx_vol T F.2.2.2 - v0) Q (F0 m F.1 ls1 (F.2.2.1.map (jx_v G)))) :
    W p l e R s m args below meth c H locs (h.length - n0) (jx_vol T h - v0) Q (F0 m pc ls (st.map (jx_v G))) := by
  obtain ⟨hF, hC, hfx, hA, hO, hN, hY, hM, hT, hK, hS, hB, hI⟩ := hok
  by_cases hp : jx_pure i = true
  · refine (jx_s_pure (T := T) (cd := cd) (own := own) (rt := rt) (h := h) (F := F) hexec hb hdec hl hp hdo (fun he ls' hl' => ?_)).2
    have k1 := kk H ls' locs (by rw [he]; exact hr) hl' hlf
    rw [he] at k1
    exact k1
  · obtain ⟨len, hd, hln⟩ := hdec
    cases i with
    | ldc k =>
      obtain rfl := hln rfl
      simp only [jx_do] at hdo
      split at hdo
      · rename_i x hx
        cases hdo
        rcases hK _ _ _ hx with ⟨y, hy, hw⟩ | ⟨y, hy, hw⟩ | ⟨j, tx, hy, hw⟩ | ⟨j, tx, hy, hw, hw2⟩
        · cases hy
          exact lv_ldc hexec hb hown (hw args) hd (kk H ls locs hr hl hlf)
        · cases hy
        · cases hy
        · cases hy
      · rename_i x hx
        cases hdo
        rcases hK _ _ _ hx with ⟨y, hy, hw⟩ | ⟨y, hy, hw⟩ | ⟨j, tx, hy, hw⟩ | ⟨j, tx, hy, hw, hw2⟩
        · cases hy
        · cases hy
        · cases hy
          have e1 : jx_mu G (jx_big + j) = G.2.1 j := by
            rw [jx_mu, if_neg (by omega), Nat.add_sub_cancel_left]
          refine va_ldcS hexec hb hown hw hd ?_
          rw [← e1]
          exact kk H ls locs hr hl hlf
        · cases hy
          have e1 : jx_mu G (jx_big + j) = G.2.1 j := by
            rw [jx_mu, if_neg (by omega), Nat.add_sub_cancel_left]
          refine va_ldcM hexec hb hown (hw args) hw2 hd ?_
          rw [← e1]
          exact kk H ls locs hr hl hlf
      · cases hdo
    | ldc2_w k =>
      obtain rfl := hln rfl
      simp only [jx_do] at hdo
      split at hdo
      · rename_i x hx
        cases hdo
        rcases hK _ _ _ hx with ⟨y, hy, hw⟩ | ⟨y, hy, hw⟩ | ⟨j, tx, hy, hw⟩ | ⟨j, tx, hy, hw, hw2⟩
        · cases hy
        · cases hy
          exact lv_ldc2 hexec hb hown (hw args) hd (kk H ls locs hr hl hlf)
        · cases hy
        · cases hy
      · cases hdo
    | iaload =>
      obtain rfl := hln rfl
      simp only [jx_do] at hdo
      obtain ⟨j, a, r, x, ty, rfl, hx, hty, hokT, hin, rfl⟩ := jx_ald_some hdo
      obtain ⟨cell, q1, q2, q3, q4, q5, q6⟩ := jx_arr_at hA hO hr hx hty
      obtain ⟨i1, i2⟩ := jx_in_spec hin
      cases ty <;> first | (cases hokT; done) | skip
      exact W.iald (v := jx_v G (x.2.2 j.toNatClampNeg)) hexec hb q1 q2 q3 (by rintro (q | q); exact i1 q; omega) (q6 _ i2) rfl rfl hd (kk H ls locs hr hl hlf)
    | laload =>
      obtain rfl := hln rfl
      simp only [jx_do] at hdo
      obtain ⟨j, a, r, x, ty, rfl, hx, hty, hokT, hin, rfl⟩ := jx_ald_some hdo
      obtain ⟨cell, q1, q2, q3, q4, q5, q6⟩ := jx_arr_at hA hO hr hx hty
      obtain ⟨i1, i2⟩ := jx_in_spec hin
      cases ty <;> first | (cases hokT; done) | skip
      exact W.lald (v := jx_v G (x.2.2 j.toNatClampNeg)) hexec hb q1 q2 q3 (by rintro (q | q); exact i1 q; omega) (q6 _ i2) rfl rfl hd (kk H ls locs hr hl hlf)
    | caload =>
      obtain rfl := hln rfl
      simp only [jx_do] at hdo
      obtain ⟨j, a, r, x, ty, rfl, hx, hty, hokT, hin, rfl⟩ := jx_ald_some hdo
      obtain ⟨cell, q1, q2, q3, q4, q5, q6⟩ := jx_arr_at hA hO hr hx hty
      obtain ⟨i1, i2⟩ := jx_in_spec hin
      cases ty <;> first | (cases hokT; done) | skip
      exact W.cald (v := jx_v G (x.2.2 j.toNatClampNeg)) hexec hb q1 q2 q3 (by rintro (q | q); exact i1 q; omega) (q6 _ i2) rfl rfl hd (kk H ls locs hr hl hlf)
    | baload =>
      obtain rfl := hln rfl
      simp only [jx_do] at hdo
      obtain ⟨j, a, r, x, ty, rfl, hx, hty, hokT, hin, rfl⟩ := jx_ald_some hdo
      obtain ⟨cell, q1, q2, q3, q4, q5, q6⟩ := jx_arr_at hA hO hr hx hty
      obtain ⟨i1, i2⟩ := jx_in_spec hin
      cases ty <;> first | (cases hokT; done) | skip
      exact W.bald (v := jx_v G (x.2.2 j.toNatClampNeg)) hexec hb q1 q2 q3 (by rintro (q | q); exact i1 q; omega) (q6 _ i2) rfl rfl hd (kk H ls locs hr hl hlf)
    | aaload =>
      obtain rfl := hln rfl
      simp only [jx_do] at hdo
      obtain ⟨j, a, r, x, ty, rfl, hx, hty, hokT, hin, rfl⟩ := jx_ald_some hdo
      obtain ⟨cell, q1, q2, q3, q4, q5, q6⟩ := jx_arr_at hA hO hr hx hty
      obtain ⟨i1, i2⟩ := jx_in_spec hin
      exact W.aald (ty := ty) (v := jx_v G (x.2.2 j.toNatClampNeg)) hexec hb q1 q2 (by cases ty <;> first | (cases hokT; done) | rfl) q3 (by rintro (q | q); exact i1 q; omega) (q6 _ i2) rfl rfl hd (kk H ls locs hr hl hlf)
    | iastore =>
      obtain rfl := hln rfl
      simp only [jx_do] at hdo
      split at hdo
      · rename_i x j a r
        obtain ⟨y, ty, hy, hty, hbig, hwr, hokT, hin, rfl⟩ := jx_ast_some hdo
        obtain ⟨i1, i2⟩ := jx_in_spec hin
        have hcell : H[G.1 + a]? = some (arrV (G.2.2.2.2.1 y.1) y.2.1 (fun i => jx_v G (y.2.2 i))) := (hr.2.1 a _ hy).2
        cases ty <;> first | (cases hokT; done) | skip
        have kk2 := fun (H1 : Heap) (locs1 : List Loc) hr1 hf1 => kk H1 ls locs1 hr1 hl hf1
        simp only [List.length_set, jx_vol_set T hy (x := .inl (y.1, y.2.1, updV y.2.2 j.toNatClampNeg (narrow .int (.int x)))) rfl] at kk2
        show W p l e R s m args below meth c H locs _ _ Q (F0 m pc ls (.int x :: .int j :: .ref (jx_mu G a) :: r.map (jx_v G)))
        rw [jx_mu_in G hbig]
        refine W.iast hexec hb hcell ((hA _ _ (hr.2.1 a _ hy).1 hty).1 _ _) (fun z => by cases z) (by rw [arrV_size]; rintro (q | q); exact i1 q; omega) rfl rfl hd fun H1 e1 z oq => ?_
        exact kk2 H1 _ (jx_ast_rep (w := narrow .int (.int x)) hr hy (by rw [jx_v_narrow]; exact e1) z oq) (jx_locs_put hlf ⟨a, hwr, rfl⟩ _)
      · cases hdo
    | lastore =>
      obtain rfl := hln rfl
      simp only [jx_do] at hdo
      split at hdo
      · rename_i x j a r
        obtain ⟨y, ty, hy, hty, hbig, hwr, hokT, hin, rfl⟩ := jx_ast_some hdo
        obtain ⟨i1, i2⟩ := jx_in_spec hin
        have hcell : H[G.1 + a]? = some (arrV (G.2.2.2.2.1 y.1) y.2.1 (fun i => jx_v G (y.2.2 i))) := (hr.2.1 a _ hy).2
        cases ty <;> first | (cases hokT; done) | skip
        have kk2 := fun (H1 : Heap) (locs1 : List Loc) hr1 hf1 => kk H1 ls locs1 hr1 hl hf1
        simp only [List.length_set, jx_vol_set T hy (x := .inl (y.1, y.2.1, updV y.2.2 j.toNatClampNeg (narrow .long (.long x)))) rfl] at kk2
        show W p l e R s m args below meth c H locs _ _ Q (F0 m pc ls (.long x :: .int j :: .ref (jx_mu G a) :: r.map (jx_v G)))
        rw [jx_mu_in G hbig]
        refine W.last hexec hb hcell ((hA _ _ (hr.2.1 a _ hy).1 hty).1 _ _) (fun z => by cases z) (by rw [arrV_size]; rintro (q | q); exact i1 q; omega) rfl rfl hd fun H1 e1 z oq => ?_
        exact kk2 H1 _ (jx_ast_rep (w := narrow .long (.long x)) hr hy (by rw [jx_v_narrow]; exact e1) z oq) (jx_locs_put hlf ⟨a, hwr, rfl⟩ _)
      · cases hdo
    | castore =>
      obtain rfl := hln rfl
      simp only [jx_do] at hdo
      split at hdo
      · rename_i x j a r
        obtain ⟨y, ty, hy, hty, hbig, hwr, hokT, hin, rfl⟩ := jx_ast_some hdo
        obtain ⟨i1, i2⟩ := jx_in_spec hin
        have hcell : H[G.1 + a]? = some (arrV (G.2.2.2.2.1 y.1) y.2.1 (fun i => jx_v G (y.2.2 i))) := (hr.2.1 a _ hy).2
        cases ty <;> first | (cases hokT; done) | skip
        have kk2 := fun (H1 : Heap) (locs1 : List Loc) hr1 hf1 => kk H1 ls locs1 hr1 hl hf1
        simp only [List.length_set, jx_vol_set T hy (x := .inl (y.1, y.2.1, updV y.2.2 j.toNatClampNeg (narrow .char (.int x)))) rfl] at kk2
        show W p l e R s m args below meth c H locs _ _ Q (F0 m pc ls (.int x :: .int j :: .ref (jx_mu G a) :: r.map (jx_v G)))
        rw [jx_mu_in G hbig]
        refine W.cast hexec hb hcell ((hA _ _ (hr.2.1 a _ hy).1 hty).1 _ _) (fun z => by cases z) (by rw [arrV_size]; rintro (q | q); exact i1 q; omega) rfl rfl hd fun H1 e1 z oq => ?_
        exact kk2 H1 _ (jx_ast_rep (w := narrow .char (.int x)) hr hy (by rw [jx_v_narrow]; exact e1) z oq) (jx_locs_put hlf ⟨a, hwr, rfl⟩ _)
      · cases hdo
    | bastore =>
      obtain rfl := hln rfl
      simp only [jx_do] at hdo
      split at hdo
      · rename_i x j a r
        obtain ⟨y, ty, hy, hty, hbig, hwr, hokT, hin, rfl⟩ := jx_ast_some hdo
        obtain ⟨i1, i2⟩ := jx_in_spec hin
        have hcell : H[G.1 + a]? = some (arrV (G.2.2.2.2.1 y.1) y.2.1 (fun i => jx_v G (y.2.2 i))) := (hr.2.1 a _ hy).2
        cases ty <;> first | (cases hokT; done) | skip
        have kk2 := fun (H1 : Heap) (locs1 : List Loc) hr1 hf1 => kk H1 ls locs1 hr1 hl hf1
        simp only [List.length_set, jx_vol_set T hy (x := .inl (y.1, y.2.1, updV y.2.2 j.toNatClampNeg (narrow .byte (.int x)))) rfl] at kk2
        show W p l e R s m args below meth c H locs _ _ Q (F0 m pc ls (.int x :: .int j :: .ref (jx_mu G a) :: r.map (jx_v G)))
        rw [jx_mu_in G hbig]
        refine W.bast hexec hb hcell ((hA _ _ (hr.2.1 a _ hy).1 hty).1 _ _) (fun z => by cases z) (by rw [arrV_size]; rintro (q | q); exact i1 q; omega) rfl rfl hd fun H1 e1 z oq => ?_
        exact kk2 H1 _ (jx_ast_rep (w := narrow .byte (.int x)) hr hy (by rw [jx_v_narrow]; exact e1) z oq) (jx_locs_put hlf ⟨a, hwr, rfl⟩ _)
      · cases hdo
    | aastore =>
      obtain rfl := hln rfl
      simp only [jx_do] at hdo
      split at hdo
      · rename_i v j a r
        split at hdo
        · rename_i t x hx
          split at hdo
          · rename_i hmay
            obtain ⟨y, ty, hy, hty, hbig, hwr, hokT, hin, rfl⟩ := jx_ast_some hdo
            have hxy : (t, x) = y := by
              unfold jx_arr at hx
              rw [if_pos hbig, hy] at hx
              exact (Option.some.inj hx).symm
            subst hxy
            have kk2 := fun (H1 : Heap) (locs1 : List Loc) hr1 hf1 => kk H1 ls locs1 hr1 hl hf1
            simp only [List.length_set, jx_vol_set T hy (x := .inl (t, x.1, updV x.2 j.toNatClampNeg (narrow ty v))) rfl] at kk2
            exact jx_s_aast hexec hb hC hA hO hT hr hlf hy hty hbig hwr hokT hin hmay hd kk2
          · cases hdo
        · cases hdo
      · cases hdo
    | arraylength =>
      obtain rfl := hln rfl
      simp only [jx_do] at hdo
      split at hdo
      · rename_i a r
        split at hdo
        · rename_i t n f hx
          split at hdo
          · rename_i ty hty
            cases hdo
            obtain ⟨cell, q1, q2, q3, q4, q5, q6⟩ := jx_arr_at hA hO hr hx hty
            exact W.alen hexec hb q1 q2 q5 rfl rfl hd (kk H ls locs hr hl hlf)
          · cases hdo
        · cases hdo
      · cases hdo
    | newarray y =>
      obtain rfl := hln rfl
      simp only [jx_do] at hdo
      split at hdo
      · rename_i n r
        split at hdo
        · rename_i t ht
          obtain ⟨h1, h2, h3, rfl⟩ := jx_newa_some hdo
          have ev : jx_vol T (h ++ [.inl (t, n.toNatClampNeg, fun _ => defaultValue (newarray.typeOf y))]) = jx_vol T h + n.toNatClampNeg := jx_vol_push T h _
          have el : (h ++ [(.inl (t, n.toNatClampNeg, fun _ => defaultValue (newarray.typeOf y)) : jx_C)]).length = h.length + 1 := by simp
          dsimp only at hroom kk
          rw [ev, el] at hroom
          refine jx_s_newa (t := t) hexec hb hY hA hr ht h3 h1 h2 (by omega) (by omega) hd fun H1 hr1 => ?_
          have k1 := kk H1 ls locs hr1 hl hlf
          rw [ev, el] at k1
          exact W.cs (by omega) (by omega) k1
        · cases hdo
      · cases hdo
    | anewarray k =>
      obtain rfl := hln rfl
      simp only [jx_do] at hdo
      split at hdo
      · rename_i n r
        split at hdo
        · rename_i t ht
          obtain ⟨h1, h2, h3, rfl⟩ := jx_newa_some hdo
          have ev : jx_vol T (h ++ [.inl (t, n.toNatClampNeg, fun _ => .null)]) = jx_vol T h + n.toNatClampNeg := jx_vol_push T h _
          have el : (h ++ [(.inl (t, n.toNatClampNeg, fun _ => .null) : jx_C)]).length = h.length + 1 := by simp
          dsimp only at hroom kk
          rw [ev, el] at hroom
          refine jx_s_anew (t := t) hexec hb hown hY hA hr ht h3 h1 h2 (by omega) (by omega) hd fun H1 hr1 => ?_
          have k1 := kk H1 ls locs hr1 hl hlf
          rw [ev, el] at k1
          exact W.cs (by omega) (by omega) k1
        · cases hdo
      · cases hdo
    | new k =>
      obtain rfl := hln rfl
      simp only [jx_do] at hdo
      split at hdo
      · split at hdo
        · split at hdo
          · cases hdo
          · cases hdo
        · cases hdo
      · split at hdo
        · rename_i ci hci
          obtain ⟨h3, rfl⟩ := jx_more_some hdo
          have ev : jx_vol T (h ++ [.inr (ci, jx_nf T ci)]) = jx_vol T h + jx_ns T ci := jx_vol_push T h _
          have el : (h ++ [(.inr (ci, jx_nf T ci) : jx_C)]).length = h.length + 1 := by simp
          dsimp only at hroom kk
          rw [ev, el] at hroom
          refine jx_s_new (T := T) hexec hb hown hC hfx hN hr hci h3 (by omega) (by omega) hd fun H1 hr1 => ?_
          have k1 := kk H1 ls locs hr1 hl hlf
          rw [ev, el] at k1
          exact W.cs (by omega) (by omega) k1
        · cases hdo
    | getfield k =>
      obtain rfl := hln rfl
      simp only [jx_do] at hdo
      split at hdo
      · rename_i a r
        split at hdo
        · rename_i ci hci
          split at hdo
          · rename_i f hf
            split at hdo
            · rename_i v hv
              cases hdo
              exact jx_s_get hexec hb hown hF hC hO hr hci hf hv hd (kk H ls locs hr hl hlf)
            · cases hdo
          · cases hdo
        · cases hdo
      · cases hdo
    | putfield k =>
      obtain rfl := hln rfl
      simp only [jx_do] at hdo
      split at hdo
      · rename_i v a r
        split at hdo
        · rename_i ci fs ha
          split at hdo
          · rename_i f hf
            split at hdo
            · rename_i ty fin hty hfm
              split at hdo
              · rename_i hc
                obtain ⟨c1, c2⟩ := (Bool.and_eq_true _ _).mp hc
                obtain ⟨c0, c2⟩ := (Bool.and_eq_true _ _).mp c2
                obtain ⟨c2, c3⟩ := (Bool.and_eq_true _ _).mp c2
                cases hdo
                have kk2 := fun (H1 : Heap) (locs1 : List Loc) hr1 hf1 => kk H1 ls locs1 hr1 hl hf1
                simp only [List.length_set, jx_vol_set T ha (x := .inr (ci, fs.set f v)) rfl] at kk2
                exact jx_s_put hexec hb hown hF hC hfx hM hr hlf hini ha hf hty hfm (of_decide_eq_true c1) c0 c2 c3 hd kk2
              · cases hdo
            · cases hdo
          · cases hdo
        · cases hdo
      · cases hdo
    | getstatic k =>
      obtain rfl := hln rfl
      simp only [jx_do] at hdo
      split at hdo
      · rename_i v hv
        cases hdo
        obtain ⟨C, n, d, ref, ⟨cf, kf, fi, f, a, cell, h1, h2, h3, h4, h5, h6, h7, h8⟩, hlk, hsm⟩ := hS _ _ _ hv
        have hcell : H[a]? = some cell := by rw [hr.2.2 a (Nat.not_le.mp h8)]; exact h5
        have hkn : cell.vm ≠ .unknown := fun z => by rw [z] at h6; cases h6
        rcases hlk with hk2 | ⟨host, hk2⟩
        · exact W.gets hexec hb hown (hk2 args) (hsm.use _ h1) h2 h3 h4 hcell hkn h7 rfl hd (kk H ls locs hr hl hlf)
        · exact va_WgetsN hexec hb hown (hk2 args) (hsm.use _ h1) h2 h3 h4 hcell hkn h7 rfl hd (kk H ls locs hr hl hlf)
      · cases hdo
    | checkcast k =>
      obtain rfl := hln rfl
      simp only [jx_do] at hdo
      split at hdo
      · cases hdo
        exact lv_castN hexec hb hd (kk H ls locs hr hl hlf)
      · rename_i a r
        split at hdo
        · rename_i ci hci
          split at hdo
          · rename_i hct
            cases hdo
            obtain ⟨r1, nm, q1, q2, q3, -⟩ := hT.1 _ _ _ _ hct
            obtain ⟨r2, cell, g1, g2, g3, g4⟩ := jx_cls_at hC hO hr hci
            cases q1.symm.trans g1
            rcases q3 rfl with ⟨e1, cC, hat⟩ | q3
            · exact va_castS hexec hb hown (q2 args) hat ⟨cell, g2, g3, by rw [← e1]; exact g4⟩ hd (kk H ls locs hr hl hlf)
            · exact va_castY hexec hb hown (q2 args) (q3 #[]) ⟨cell, g2, g3, g4⟩ hd (kk H ls locs hr hl hlf)
          · cases hdo
        · cases hdo
      · cases hdo
    | instanceof k =>
      obtain rfl := hln rfl
      simp only [jx_do] at hdo
      split at hdo
      · cases hdo
        exact lv_instN hexec hb hd (kk H ls locs hr hl hlf)
      · rename_i a r
        split at hdo
        · rename_i ci hci
          split at hdo
          · rename_i hct
            cases hdo
            obtain ⟨r1, nm, q1, q2, q3, -⟩ := hT.1 _ _ _ _ hct
            obtain ⟨r2, cell, g1, g2, g3, g4⟩ := jx_cls_at hC hO hr hci
            cases q1.symm.trans g1
            rcases q3 rfl with ⟨e1, cC, hat⟩ | q3
            · exact va_instS hexec hb hown (q2 args) hat ⟨cell, g2, g3, by rw [← e1]; exact g4⟩ hd (kk H ls locs hr hl hlf)
            · exact va_instY hexec hb hown (q2 args) (q3 #[]) ⟨cell, g2, g3, g4⟩ hd (kk H ls locs hr hl hlf)
          · rename_i hct
            cases hdo
            obtain ⟨r1, nm, q1, q2, -, q3⟩ := hT.1 _ _ _ _ hct
            obtain ⟨r2, cell, g1, g2, g3, g4⟩ := jx_cls_at hC hO hr hci
            cases q1.symm.trans g1
            exact va_instNo hexec hb hown (q2 args) (q3 rfl) ⟨cell, g2, g3, g4⟩ hd (kk H ls locs hr hl hlf)
          · cases hdo
        · cases hdo
      · cases hdo
    | invokestatic k =>
      obtain rfl := hln rfl
      simp only [jx_do] at hdo
      split at hdo
      · rename_i b hbi
        split at hdo
        · rename_i hb2
          split at hdo
          · rename_i n dp a sp a0 r
            obtain ⟨x, y, ty, hx, hy, hty, h01, hbig, hwr, c1, c2, c3, c4, c5, hw, hok, rfl⟩ := jx_cpy_some hdo
            have hw2 : ((r.map (jx_v G)).map fun v => v.category).sum ≤ 8 := by
              rw [List.map_map, show ((fun v : Value => v.category) ∘ jx_v G) = (fun v => v.category) from funext (fun v => jx_v_cat G v)]
              exact of_decide_eq_true hw
            rcases hB.1 _ _ _ hbi with ⟨e, -⟩ | ⟨e, -⟩ | ⟨-, w1, w2, w3, w4⟩ | ⟨e, -⟩
            · exact absurd (hb2.symm.trans e) (by decide)
            · exact absurd (hb2.symm.trans e) (by decide)
            · have hv : jx_vol T (h.set a (.inl (x.1, x.2.1, va_cpy y.2.2 x.2.2 sp.toNatClampNeg dp.toNatClampNeg n.toNatClampNeg))) = jx_vol T h := jx_vol_set T hx rfl
              have kk2 := kk
              dsimp only at kk2
              rw [List.length_set, hv] at kk2
              exact jx_s_cpy hexec hb (by rw [hml]; exact hl.2.1.symm) hown (w1 args) (w2 args) (w3 args) (w4 args) hC hA hO hT hr hlf hx hy hty h01 hbig hwr c1 c2 c3 c4 c5 hok hR.1 (by show _ + (nativeFrameWords "java/lang/System" "arraycopy" 5 + 11) ≤ _; have hwn : nativeFrameWords "java/lang/System" "arraycopy" 5 + 11 ≤ 22 := (by decide); omega) hd (fun H1 locs1 hr1 hl1 => kk2 H1 ls locs1 hr1 hl hl1)
            · exact absurd (hb2.symm.trans e) (by decide)
          · cases hdo
        · rename_i hb2
          split at hdo
          · rename_i y x r
            split at hdo
            · rename_i hwb
              obtain ⟨hw, hb3⟩ := (Bool.and_eq_true _ _).mp hwb
              cases hdo
              have hw2 : ((r.map (jx_v G)).map fun v => v.category).sum ≤ 8 := by
                rw [List.map_map, show ((fun v : Value => v.category) ∘ jx_v G) = (fun v => v.category) from funext (fun v => jx_v_cat G v)]
                exact of_decide_eq_true hw
              rcases hB.1 _ _ _ hbi with ⟨rfl, w1, w2, w3, w4⟩ | ⟨rfl, w1, w2, w3, w4⟩ | ⟨e, -⟩ | ⟨rfl, -⟩
              · exact va_mmax hexec hb (by rw [hml]; exact hl.2.1.symm) hown (w1 args) (w2 args) (w3 args) (w4 args) hR.1 (by omega) hroom.1 hroom.2 hd (kk H ls locs hr hl hlf)
              · exact va_mmin hexec hb (by rw [hml]; exact hl.2.1.symm) hown (w1 args) (w2 args) (w3 args) (w4 args) hR.1 (by omega) hroom.1 hroom.2 hd (kk H ls locs hr hl hlf)
              · exact absurd e hb2
              · exact absurd (of_decide_eq_true hb3) (by decide)
            · cases hdo
          · cases hdo
      · split at hdo
        · split at hdo
          · split at hdo
            · cases hdo
            · cases hdo
          · cases hdo
        · cases hdo
    | invokevirtual k =>
      obtain rfl := hln rfl
      simp only [jx_do] at hdo
      split at hdo
      · repeat' (split at hdo)
        all_goals (cases hdo)
      · split at hdo
        · rename_i b hbi
          split at hdo
          · rename_i a r
            obtain ⟨x, hx, hxb, hbig, hw, rfl⟩ := jx_gcl_some hdo
            have hw2 : ((r.map (jx_v G)).map fun v => v.category).sum ≤ 8 := by
              rw [List.map_map, show ((fun v : Value => v.category) ∘ jx_v G) = (fun v => v.category) from funext (fun v => jx_v_cat G v)]
              exact of_decide_eq_true hw
            rcases hB.1 _ _ _ hbi with ⟨e, -⟩ | ⟨e, -⟩ | ⟨e, -⟩ | ⟨e, w1, w2, w3, w4, w5, w6, w7⟩
            · omega
            · omega
            · omega
            · have e6 : x.1 = 6 := by omega
              have hpt := hr.2.1 a _ hx
              have hty : jx_ty T x.1 = some (.object "java/lang/Object") := by rw [e6]; exact w7
              have e1 : jx_mu G (jx_big + 56) = G.2.1 56 := by
                rw [jx_mu, if_neg (by omega), Nat.add_sub_cancel_left]
              refine va_getC hexec hb (by rw [hml]; exact hl.2.1.symm) hown (w1 args) w2.use (w3 args) (w4 args) (w5 args) w6 ⟨_, by rw [jx_mu_in G hbig]; exact hpt.2, rfl, va_nmO (hA _ _ hpt.1 hty).2 (by decide)⟩ hR.1 (by omega) hd ?_
              rw [← e1]
              exact kk H ls locs hr hl hlf
          · cases hdo
        · cases hdo
    | invokespecial k =>
      obtain rfl := hln rfl
      simp only [jx_do] at hdo
      split at hdo
      · rename_i hoi
        split at hdo
        · rename_i a r
          split at hdo
          · rename_i hw
            cases hdo
            have hw2 : ((r.map (jx_v G)).map fun v => v.category).sum ≤ 8 := by
              rw [List.map_map, show ((fun v : Value => v.category) ∘ jx_v G) = (fun v => v.category) from funext (fun v => jx_v_cat G v)]
              exact of_decide_eq_true hw
            obtain ⟨w1, w2, w3⟩ := hB.2 _ _ hoi
            exact W.objInit hexec hb hown (w1 args) (w2 args) (w3 args) rfl (by rw [hml]; exact hl.2.1) rfl hd hR.1 (by show 2 * 0 + _ + 12 ≤ _; omega) (kk H ls locs hr hl hlf)
          · cases hdo
        · cases hdo
      · repeat' (split at hdo)
        all_goals (cases hdo)
    | if_acmp cd2 off =>
      obtain rfl := hln rfl
      simp only [jx_do] at hdo
      split at hdo
      · rename_i y x r
        split at hdo
        · rename_i hxy
          subst hxy
          obtain ⟨t, ht, hdo⟩ := jx_br_some hdo
          cases cd2
          · rcases hdo with ⟨hc, rfl⟩ | ⟨hc, rfl⟩
            · exact lv_acmp_eq (rx := some (jx_mu G x)) (ry := some (jx_mu G x)) hexec hb hd ht (fun _ => kk H ls locs hr hl hlf) (fun z => absurd rfl z)
            · cases hc
          · rcases hdo with ⟨hc, rfl⟩ | ⟨hc, rfl⟩
            · cases hc
            · exact lv_acmp_ne (rx := some (jx_mu G x)) (ry := some (jx_mu G x)) hexec hb hd ht (fun z => absurd rfl z) (fun _ => kk H ls locs hr hl hlf)
        · rename_i hxy
          split at hdo
          · rename_i hne
            have hmu : ¬ (some (jx_mu G x) = some (jx_mu G y)) := fun z => jx_ne_spec hI hxy hne (Option.some.inj z)
            obtain ⟨t, ht, hdo⟩ := jx_br_some hdo
            cases cd2
            · rcases hdo with ⟨hc, rfl⟩ | ⟨hc, rfl⟩
              · cases hc
              · exact lv_acmp_eq (rx := some (jx_mu G x)) (ry := some (jx_mu G y)) hexec hb hd ht (fun z => absurd z hmu) (fun _ => kk H ls locs hr hl hlf)
            · rcases hdo with ⟨hc, rfl⟩ | ⟨hc, rfl⟩
              · exact lv_acmp_ne (rx := some (jx_mu G x)) (ry := some (jx_mu G y)) hexec hb hd ht (fun _ => kk H ls locs hr hl hlf) (fun z => absurd z hmu)
              · cases hc
          · cases hdo
      · rename_i x r
        obtain ⟨t, ht, hdo⟩ := jx_br_some hdo
        cases cd2
        · rcases hdo with ⟨hc, rfl⟩ | ⟨hc, rfl⟩
          · cases hc
          · exact lv_acmp_eq (rx := some (jx_mu G x)) (ry := none) hexec hb hd ht (fun z => by cases z) (fun _ => kk H ls locs hr hl hlf)
        · rcases hdo with ⟨hc, rfl⟩ | ⟨hc, rfl⟩
          · exact lv_acmp_ne (rx := some (jx_mu G x)) (ry := none) hexec hb hd ht (fun _ => kk H ls locs hr hl hlf) (fun z => by cases z)
          · cases hc
      · rename_i x r
        obtain ⟨t, ht, hdo⟩ := jx_br_some hdo
        cases cd2
        · rcases hdo with ⟨hc, rfl⟩ | ⟨hc, rfl⟩
          · cases hc
          · exact lv_acmp_eq (rx := none) (ry := some (jx_mu G x)) hexec hb hd ht (fun z => by cases z) (fun _ => kk H ls locs hr hl hlf)
        · rcases hdo with ⟨hc, rfl⟩ | ⟨hc, rfl⟩
          · exact lv_acmp_ne (rx := none) (ry := some (jx_mu G x)) hexec hb hd ht (fun _ => kk H ls locs hr hl hlf) (fun z => by cases z)
          · cases hc
      · obtain ⟨t, ht, hdo⟩ := jx_br_some hdo
        cases cd2
        · rcases hdo with ⟨hc, rfl⟩ | ⟨hc, rfl⟩
          · exact lv_acmp_eq (rx := none) (ry := none) hexec hb hd ht (fun _ => kk H ls locs hr hl hlf) (fun z => absurd rfl z)
          · cases hc
        · rcases hdo with ⟨hc, rfl⟩ | ⟨hc, rfl⟩
          · cases hc
          · exact lv_acmp_ne (rx := none) (ry := none) hexec hb hd ht (fun z => absurd rfl z) (fun _ => kk H ls locs hr hl hlf)
      · cases hdo
    | ireturn =>
      obtain rfl := hln rfl
      simp only [jx_do] at hdo
      repeat' (split at hdo)
      all_goals (cases hdo)
    | lreturn =>
      obtain rfl := hln rfl
      simp only [jx_do] at hdo
      repeat' (split at hdo)
      all_goals (cases hdo)
    | areturn =>
      obtain rfl := hln rfl
      simp only [jx_do] at hdo
      repeat' (split at hdo)
      all_goals (cases hdo)
    | return_ =>
      obtain rfl := hln rfl
      simp only [jx_do] at hdo
      repeat' (split at hdo)
      all_goals (cases hdo)
    | _ => first | (cases hdo; done) | exact absurd rfl hp
end JXALL
