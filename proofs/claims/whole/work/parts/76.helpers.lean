/-! ===== the helpers' runs (printed by program: gen13.py) ===== -/
section JU
variable {T : jx_T} {E : jx_M} {xs : Nat → Option (Nat × Nat)} {Su : jx_Su} {Post : jx_H → Option Value → Prop} {pc : Nat} {lo : jx_L} {st : List Value} {h : jx_H} {F2 : jx_F} {i : Instr}
def jx_U (T : jx_T) (E : jx_M) (xs : Nat → Option (Nat × Nat)) (Su : jx_Su) (Post : jx_H → Option Value → Prop) (F : jx_F) : Prop := ∃ f, jx_u T E xs Su Post f F
theorem ju_1 (hi : E.2.2.2.1 pc = some i) (hx : jx_xcall xs i st = none) (hdo : jx_do T E.2.2.2.1 E.1 pc E.2.2.1 i lo st h = some (.inl F2)) (k : jx_U T E xs Su Post F2) : jx_U T E xs Su Post (pc, lo, st, h) := by
  obtain ⟨f, k⟩ := k
  refine ⟨f + 1, ?_⟩
  rw [jx_u_succ]
  unfold jx_u1
  dsimp only
  rw [hi]
  dsimp only
  rw [hx]
  dsimp only
  rw [hdo]
  exact k
theorem ju_c (hi : E.2.2.2.1 pc = some i) (hx : jx_xcall xs i st = none) {m2 : Nat} {as r : List Value} (hdo : jx_do T E.2.2.2.1 E.1 pc E.2.2.1 i lo st h = some (.inr (.inl (m2, as, r)))) {h2 : jx_H} {v : Option Value} (hs : Su m2 as h (h2, .inl v)) (k : jx_U T E xs Su Post (pc + 3, lo, v.toList ++ r, h2)) : jx_U T E xs Su Post (pc, lo, st, h) := by
  obtain ⟨f, k⟩ := k
  refine ⟨f + 1, ?_⟩
  rw [jx_u_succ]
  unfold jx_u1
  dsimp only
  rw [hi]
  dsimp only
  rw [hx]
  dsimp only
  rw [hdo]
  exact Or.inl ⟨h2, v, hs, k⟩
theorem ju_t (hi : E.2.2.2.1 pc = some i) (hx : jx_xcall xs i st = none) {m2 : Nat} {as r : List Value} (hdo : jx_do T E.2.2.2.1 E.1 pc E.2.2.1 i lo st h = some (.inr (.inl (m2, as, r)))) {h2 : jx_H} {a ci pc2 : Nat} (hs : Su m2 as h (h2, .inr a)) (hc : jx_cls T h2 a = some ci) (hh : E.2.2.2.2 pc ci = some pc2) (k : jx_U T E xs Su Post (pc2, lo, [.ref a], h2)) : jx_U T E xs Su Post (pc, lo, st, h) := by
  obtain ⟨f, k⟩ := k
  refine ⟨f + 1, ?_⟩
  rw [jx_u_succ]
  unfold jx_u1
  dsimp only
  rw [hi]
  dsimp only
  rw [hx]
  dsimp only
  rw [hdo]
  exact Or.inr ⟨h2, a, ci, pc2, hs, hc, hh, k⟩
theorem ju_r (hi : E.2.2.2.1 pc = some i) (hx : jx_xcall xs i st = none) {v : Option Value} (hdo : jx_do T E.2.2.2.1 E.1 pc E.2.2.1 i lo st h = some (.inr (.inr (.inl v)))) (k : Post h v) : jx_U T E xs Su Post (pc, lo, st, h) := by
  refine ⟨1, ?_⟩
  rw [jx_u_succ]
  unfold jx_u1
  dsimp only
  rw [hi]
  dsimp only
  rw [hx]
  dsimp only
  rw [hdo]
  exact k
end JU
theorem ju_go {T : jx_T} {cd : Nat → Option Instr} {own pc t : Nat} {rt : Option FieldType × Bool} {off : Int} {lo : jx_L} {st : List Value} {h : jx_H} (e : jx_to pc off = some t) : jx_do T cd own pc rt (.goto off) lo st h = some (.inl (t, lo, st, h)) := by
  simp only [jx_do, jx_go, e]
theorem ju_cv {L : Nat} {xs : Nat → Int32} {cd : Nat → Option Instr} {rt : Option FieldType × Bool} {pc k n a ci m2 : Nat} {bs r : List Value} {lo : jx_L} {st : List Value} {h : jx_H} (hcv : (jw_find jw_cvT 22 k) = some (n, [(ci, m2)])) (hc : jx_cls (jw_TT L xs) h a = some ci) (hn : bs.length = n) (hst : st = bs.reverse ++ .ref a :: r) (hw : jx_wt r = true) : jx_do (jw_TT L xs) cd 22 pc rt (.invokevirtual k) lo st h = some (.inr (.inl (m2, .ref a :: bs, r))) := by
  have e1 : jx_cv (jw_TT L xs) 22 k = some (n, jw_ls [(ci, m2)]) := by
    show jw_cv 22 k = _
    unfold jw_cv
    rw [hcv]
  have e2 : jx_args n st = some (bs, .ref a :: r) := by
    subst hn
    subst hst
    unfold jx_args
    rw [if_pos (by simp)]
    rw [← List.length_reverse, List.take_left, List.drop_left, List.reverse_reverse]
  have e3 : jw_ls [(ci, m2)] ci = some m2 := by
    unfold jw_ls
    simp
  simp only [jx_do, e1, e2, hc, e3, hw]
  rfl
theorem ju_las {L : Nat} {xs : Nat → Int32} {cd : Nat → Option Instr} {rt : Option FieldType × Bool} {own pc o : Nat} {f : Nat → Value} {x : Int64} {r : List Value} {lo : jx_L} {h : jx_H} (ho : h[o]? = some (.inl (1, 1, f))) (hb : o < jx_big) : jx_do (jw_TT L xs) cd own pc rt .lastore lo (.long x :: .int (Int32.ofInt 0) :: .ref o :: r) h = some (.inl (pc + 1, lo, r, h.set o (.inl (1, 1, updV f 0 (.long x))))) := by
  have e1 : jx_ty (jw_TT L xs) 1 = some .long := rfl
  have e2 : jx_wr (jw_TT L xs) o = true := rfl
  have e3 : jx_in (Int32.ofInt 0) 1 = true := by decide
  simp only [jx_do, jx_ast, ho, e1, e2, e3, decide_eq_true hb]
  rfl
section JH
variable {L : Nat} {xs : Nat → Int32} {o : Nat} {h h1 : jx_H} {x v : Int32} {f : Nat → Value}
abbrev jw_sh (L : Nat) (xs : Nat → Int32) : jx_Su := jx_suH (jw_TT L xs) (jw_TF L xs) jw_M 800
theorem jx_cls_push {T : jx_T} {h : jx_H} {ci : Nat} (hb : h.length < jx_big) : jx_cls T (h ++ [.inr (ci, [])]) h.length = some ci := by
  unfold jx_cls
  rw [if_pos hb]
  simp
theorem jh_hd0_8 : jx_hdl (jw_TT L xs) 22 4 8 [(0, 9, 12, 13), (0, 9, 15, 15)] = some 12 := by
  have e13 : jx_ct (jw_TT L xs) 22 13 8 = some true := (show jw_ct 22 13 8 = some true by decide +kernel)
  simp [jx_hdl, e13]
theorem jh_hd0_10 : jx_hdl (jw_TT L xs) 22 4 10 [(0, 9, 12, 13), (0, 9, 15, 15)] = some 15 := by
  have e13 : jx_ct (jw_TT L xs) 22 13 10 = some false := (show jw_ct 22 13 10 = some false by decide +kernel)
  have e15 : jx_ct (jw_TT L xs) 22 15 10 = some true := (show jw_ct 22 15 10 = some true by decide +kernel)
  simp [jx_hdl, e13, e15]
theorem jh_hd1_10 : jx_hdl (jw_TT L xs) 22 3 10 [(0, 8, 11, 15)] = some 11 := by
  have e15 : jx_ct (jw_TT L xs) 22 15 10 = some true := (show jw_ct 22 15 10 = some true by decide +kernel)
  simp [jx_hdl, e15]
theorem jh_hd2_8 : jx_hdl (jw_TT L xs) 22 4 8 [(0, 9, 12, 13)] = some 12 := by
  have e13 : jx_ct (jw_TT L xs) 22 13 8 = some true := (show jw_ct 22 13 8 = some true by decide +kernel)
  simp [jx_hdl, e13]
theorem lh0_0 : jw_cd cd_113 0 = some (.aload_n 2) := by decide +kernel
theorem lh0_1 : jw_cd cd_113 1 = some (.iconst 0) := by decide +kernel
theorem lh0_2 : jw_cd cd_113 2 = some (.aload_n 0) := by decide +kernel
theorem lh0_3 : jw_cd cd_113 3 = some (.iload_n 1) := by decide +kernel
theorem lh0_4 : jw_cd cd_113 4 = some (.invokevirtual 7) := by decide +kernel
theorem lh0_7 : jw_cd cd_113 7 = some (.i2l) := by decide +kernel
theorem lh0_8 : jw_cd cd_113 8 = some (.lastore) := by decide +kernel
theorem lh0_9 : jw_cd cd_113 9 = some (.goto 9) := by decide +kernel
theorem lh0_12 : jw_cd cd_113 12 = some (.astore_n 3) := by decide +kernel
theorem lh0_13 : jw_cd cd_113 13 = some (.iconst 1) := by decide +kernel
theorem lh0_14 : jw_cd cd_113 14 = some (.ireturn) := by decide +kernel
theorem lh0_15 : jw_cd cd_113 15 = some (.astore_n 3) := by decide +kernel
theorem lh0_16 : jw_cd cd_113 16 = some (.iconst 2) := by decide +kernel
theorem lh0_17 : jw_cd cd_113 17 = some (.ireturn) := by decide +kernel
theorem lh0_18 : jw_cd cd_113 18 = some (.iconst 0) := by decide +kernel
theorem lh0_19 : jw_cd cd_113 19 = some (.ireturn) := by decide +kernel
theorem jh_letter (c0 : jx_cls (jw_TT L xs) h 0 = some 0) (q : jw_sh L xs 114 [.ref 0, .int x] h (h1, .inl (some (.int v)))) (ho : h1[o]? = some (.inl (1, 1, f))) (hb : o < jx_big) : jw_su L xs 1000 [.ref 0, .int x, .ref o] h (h1.set o (.inl (1, 1, updV f 0 (.long v.toInt64))), .inl (some (.int 0))) := by
  have key : jx_U (jw_TT L xs) (jw_h0.1.1, jw_h0.1.2.1, jw_h0.1.2.2.1, jw_h0.1.2.2.2.1, fun pc ci => jx_hdl (jw_TT L xs) jw_h0.1.1 pc ci jw_h0.1.2.2.2.2) (fun _ => none) (jw_sh L xs) (fun hf v' => hf = h1.set o (.inl (1, 1, updV f 0 (.long v.toInt64))) ∧ v' = some (.int 0)) (0, [some (.ref 0), some (.int x), some (.ref o), none], [], h) := by
    refine ju_1 lh0_0 rfl rfl ?_
    refine ju_1 lh0_1 rfl rfl ?_
    refine ju_1 lh0_2 rfl rfl ?_
    refine ju_1 lh0_3 rfl rfl ?_
    refine ju_c lh0_4 rfl (ju_cv (n := 1) (ci := 0) (m2 := 114) (bs := [.int x]) (r := [.int (Int32.ofInt 0), .ref o]) (by decide +kernel) c0 rfl rfl rfl) q ?_
    refine ju_1 lh0_7 rfl rfl ?_
    refine ju_1 lh0_8 rfl (ju_las ho hb) ?_
    refine ju_1 lh0_9 rfl (ju_go (t := 18) (by decide)) ?_
    refine ju_1 lh0_18 rfl rfl ?_
    exact ju_r lh0_19 rfl rfl ⟨rfl, rfl⟩
  obtain ⟨g, key⟩ := key
  exact ⟨_, rfl, Or.inr ⟨_, _, _, _, _, _, g, rfl, (by show 3 ≤ 4; decide), key⟩⟩
theorem jh_letter_8 (c0 : jx_cls (jw_TT L xs) h 0 = some 0) (hb : h.length < jx_big) (q : jw_sh L xs 114 [.ref 0, .int x] h (h ++ [.inr (8, [])], .inr h.length)) : jw_su L xs 1000 [.ref 0, .int x, .ref o] h (h ++ [.inr (8, [])], .inl (some (.int 1))) := by
  have key : jx_U (jw_TT L xs) (jw_h0.1.1, jw_h0.1.2.1, jw_h0.1.2.2.1, jw_h0.1.2.2.2.1, fun pc ci => jx_hdl (jw_TT L xs) jw_h0.1.1 pc ci jw_h0.1.2.2.2.2) (fun _ => none) (jw_sh L xs) (fun hf v' => hf = h ++ [.inr (8, [])] ∧ v' = some (.int 1)) (0, [some (.ref 0), some (.int x), some (.ref o), none], [], h) := by
    refine ju_1 lh0_0 rfl rfl ?_
    refine ju_1 lh0_1 rfl rfl ?_
    refine ju_1 lh0_2 rfl rfl ?_
    refine ju_1 lh0_3 rfl rfl ?_
    refine ju_t lh0_4 rfl (ju_cv (n := 1) (ci := 0) (m2 := 114) (bs := [.int x]) (r := [.int (Int32.ofInt 0), .ref o]) (by decide +kernel) c0 rfl rfl rfl) q (jx_cls_push hb) (pc2 := 12) (show jx_hdl (jw_TT L xs) 22 4 8 _ = some 12 from jh_hd0_8) ?_
    refine ju_1 lh0_12 rfl rfl ?_
    refine ju_1 lh0_13 rfl rfl ?_
    exact ju_r lh0_14 rfl rfl ⟨rfl, rfl⟩
  obtain ⟨g, key⟩ := key
  exact ⟨_, rfl, Or.inr ⟨_, _, _, _, _, _, g, rfl, (by show 3 ≤ 4; decide), key⟩⟩
theorem jh_letter_10 (c0 : jx_cls (jw_TT L xs) h 0 = some 0) (hb : h.length < jx_big) (q : jw_sh L xs 114 [.ref 0, .int x] h (h ++ [.inr (10, [])], .inr h.length)) : jw_su L xs 1000 [.ref 0, .int x, .ref o] h (h ++ [.inr (10, [])], .inl (some (.int 2))) := by
  have key : jx_U (jw_TT L xs) (jw_h0.1.1, jw_h0.1.2.1, jw_h0.1.2.2.1, jw_h0.1.2.2.2.1, fun pc ci => jx_hdl (jw_TT L xs) jw_h0.1.1 pc ci jw_h0.1.2.2.2.2) (fun _ => none) (jw_sh L xs) (fun hf v' => hf = h ++ [.inr (10, [])] ∧ v' = some (.int 2)) (0, [some (.ref 0), some (.int x), some (.ref o), none], [], h) := by
    refine ju_1 lh0_0 rfl rfl ?_
    refine ju_1 lh0_1 rfl rfl ?_
    refine ju_1 lh0_2 rfl rfl ?_
    refine ju_1 lh0_3 rfl rfl ?_
    refine ju_t lh0_4 rfl (ju_cv (n := 1) (ci := 0) (m2 := 114) (bs := [.int x]) (r := [.int (Int32.ofInt 0), .ref o]) (by decide +kernel) c0 rfl rfl rfl) q (jx_cls_push hb) (pc2 := 15) (show jx_hdl (jw_TT L xs) 22 4 10 _ = some 15 from jh_hd0_10) ?_
    refine ju_1 lh0_15 rfl rfl ?_
    refine ju_1 lh0_16 rfl rfl ?_
    exact ju_r lh0_17 rfl rfl ⟨rfl, rfl⟩
  obtain ⟨g, key⟩ := key
  exact ⟨_, rfl, Or.inr ⟨_, _, _, _, _, _, g, rfl, (by show 3 ≤ 4; decide), key⟩⟩
theorem lh1_0 : jw_cd cd_121 0 = some (.aload_n 1) := by decide +kernel
theorem lh1_1 : jw_cd cd_121 1 = some (.iconst 0) := by decide +kernel
theorem lh1_2 : jw_cd cd_121 2 = some (.aload_n 0) := by decide +kernel
theorem lh1_3 : jw_cd cd_121 3 = some (.invokevirtual 17) := by decide +kernel
theorem lh1_6 : jw_cd cd_121 6 = some (.i2l) := by decide +kernel
theorem lh1_7 : jw_cd cd_121 7 = some (.lastore) := by decide +kernel
theorem lh1_8 : jw_cd cd_121 8 = some (.goto 6) := by decide +kernel
theorem lh1_11 : jw_cd cd_121 11 = some (.astore_n 2) := by decide +kernel
theorem lh1_12 : jw_cd cd_121 12 = some (.iconst 1) := by decide +kernel
theorem lh1_13 : jw_cd cd_121 13 = some (.ireturn) := by decide +kernel
theorem lh1_14 : jw_cd cd_121 14 = some (.iconst 0) := by decide +kernel
theorem lh1_15 : jw_cd cd_121 15 = some (.ireturn) := by decide +kernel
theorem jh_query (c0 : jx_cls (jw_TT L xs) h 0 = some 0) (q : jw_sh L xs 122 [.ref 0] h (h1, .inl (some (.int v)))) (ho : h1[o]? = some (.inl (1, 1, f))) (hb : o < jx_big) : jw_su L xs 1001 [.ref 0, .ref o] h (h1.set o (.inl (1, 1, updV f 0 (.long v.toInt64))), .inl (some (.int 0))) := by
  have key : jx_U (jw_TT L xs) (jw_h1.1.1, jw_h1.1.2.1, jw_h1.1.2.2.1, jw_h1.1.2.2.2.1, fun pc ci => jx_hdl (jw_TT L xs) jw_h1.1.1 pc ci jw_h1.1.2.2.2.2) (fun _ => none) (jw_sh L xs) (fun hf v' => hf = h1.set o (.inl (1, 1, updV f 0 (.long v.toInt64))) ∧ v' = some (.int 0)) (0, [some (.ref 0), some (.ref o), none], [], h) := by
    refine ju_1 lh1_0 rfl rfl ?_
    refine ju_1 lh1_1 rfl rfl ?_
    refine ju_1 lh1_2 rfl rfl ?_
    refine ju_c lh1_3 rfl (ju_cv (n := 0) (ci := 0) (m2 := 122) (bs := []) (r := [.int (Int32.ofInt 0), .ref o]) (by decide +kernel) c0 rfl rfl rfl) q ?_
    refine ju_1 lh1_6 rfl rfl ?_
    refine ju_1 lh1_7 rfl (ju_las ho hb) ?_
    refine ju_1 lh1_8 rfl (ju_go (t := 14) (by decide)) ?_
    refine ju_1 lh1_14 rfl rfl ?_
    exact ju_r lh1_15 rfl rfl ⟨rfl, rfl⟩
  obtain ⟨g, key⟩ := key
  exact ⟨_, rfl, Or.inr ⟨_, _, _, _, _, _, g, rfl, (by show 2 ≤ 3; decide), key⟩⟩
theorem jh_query_10 (c0 : jx_cls (jw_TT L xs) h 0 = some 0) (hb : h.length < jx_big) (q : jw_sh L xs 122 [.ref 0] h (h ++ [.inr (10, [])], .inr h.length)) : jw_su L xs 1001 [.ref 0, .ref o] h (h ++ [.inr (10, [])], .inl (some (.int 1))) := by
  have key : jx_U (jw_TT L xs) (jw_h1.1.1, jw_h1.1.2.1, jw_h1.1.2.2.1, jw_h1.1.2.2.2.1, fun pc ci => jx_hdl (jw_TT L xs) jw_h1.1.1 pc ci jw_h1.1.2.2.2.2) (fun _ => none) (jw_sh L xs) (fun hf v' => hf = h ++ [.inr (10, [])] ∧ v' = some (.int 1)) (0, [some (.ref 0), some (.ref o), none], [], h) := by
    refine ju_1 lh1_0 rfl rfl ?_
    refine ju_1 lh1_1 rfl rfl ?_
    refine ju_1 lh1_2 rfl rfl ?_
    refine ju_t lh1_3 rfl (ju_cv (n := 0) (ci := 0) (m2 := 122) (bs := []) (r := [.int (Int32.ofInt 0), .ref o]) (by decide +kernel) c0 rfl rfl rfl) q (jx_cls_push hb) (pc2 := 11) (show jx_hdl (jw_TT L xs) 22 3 10 _ = some 11 from jh_hd1_10) ?_
    refine ju_1 lh1_11 rfl rfl ?_
    refine ju_1 lh1_12 rfl rfl ?_
    exact ju_r lh1_13 rfl rfl ⟨rfl, rfl⟩
  obtain ⟨g, key⟩ := key
  exact ⟨_, rfl, Or.inr ⟨_, _, _, _, _, _, g, rfl, (by show 2 ≤ 3; decide), key⟩⟩
theorem lh2_0 : jw_cd cd_156 0 = some (.aload_n 2) := by decide +kernel
theorem lh2_1 : jw_cd cd_156 1 = some (.iconst 0) := by decide +kernel
theorem lh2_2 : jw_cd cd_156 2 = some (.aload_n 0) := by decide +kernel
theorem lh2_3 : jw_cd cd_156 3 = some (.iload_n 1) := by decide +kernel
theorem lh2_4 : jw_cd cd_156 4 = some (.invokevirtual 21) := by decide +kernel
theorem lh2_7 : jw_cd cd_156 7 = some (.i2l) := by decide +kernel
theorem lh2_8 : jw_cd cd_156 8 = some (.lastore) := by decide +kernel
theorem lh2_9 : jw_cd cd_156 9 = some (.goto 6) := by decide +kernel
theorem lh2_12 : jw_cd cd_156 12 = some (.astore_n 3) := by decide +kernel
theorem lh2_13 : jw_cd cd_156 13 = some (.iconst 1) := by decide +kernel
theorem lh2_14 : jw_cd cd_156 14 = some (.ireturn) := by decide +kernel
theorem lh2_15 : jw_cd cd_156 15 = some (.iconst 0) := by decide +kernel
theorem lh2_16 : jw_cd cd_156 16 = some (.ireturn) := by decide +kernel
theorem jh_run (c0 : jx_cls (jw_TT L xs) h 0 = some 0) (q : jw_sh L xs 157 [.ref 0, .int x] h (h1, .inl (some (.int v)))) (ho : h1[o]? = some (.inl (1, 1, f))) (hb : o < jx_big) : jw_su L xs 1002 [.ref 0, .int x, .ref o] h (h1.set o (.inl (1, 1, updV f 0 (.long v.toInt64))), .inl (some (.int 0))) := by
  have key : jx_U (jw_TT L xs) (jw_h2.1.1, jw_h2.1.2.1, jw_h2.1.2.2.1, jw_h2.1.2.2.2.1, fun pc ci => jx_hdl (jw_TT L xs) jw_h2.1.1 pc ci jw_h2.1.2.2.2.2) (fun _ => none) (jw_sh L xs) (fun hf v' => hf = h1.set o (.inl (1, 1, updV f 0 (.long v.toInt64))) ∧ v' = some (.int 0)) (0, [some (.ref 0), some (.int x), some (.ref o), none], [], h) := by
    refine ju_1 lh2_0 rfl rfl ?_
    refine ju_1 lh2_1 rfl rfl ?_
    refine ju_1 lh2_2 rfl rfl ?_
    refine ju_1 lh2_3 rfl rfl ?_
    refine ju_c lh2_4 rfl (ju_cv (n := 1) (ci := 0) (m2 := 157) (bs := [.int x]) (r := [.int (Int32.ofInt 0), .ref o]) (by decide +kernel) c0 rfl rfl rfl) q ?_
    refine ju_1 lh2_7 rfl rfl ?_
    refine ju_1 lh2_8 rfl (ju_las ho hb) ?_
    refine ju_1 lh2_9 rfl (ju_go (t := 15) (by decide)) ?_
    refine ju_1 lh2_15 rfl rfl ?_
    exact ju_r lh2_16 rfl rfl ⟨rfl, rfl⟩
  obtain ⟨g, key⟩ := key
  exact ⟨_, rfl, Or.inr ⟨_, _, _, _, _, _, g, rfl, (by show 3 ≤ 4; decide), key⟩⟩
theorem jh_run_8 (c0 : jx_cls (jw_TT L xs) h 0 = some 0) (hb : h.length < jx_big) (q : jw_sh L xs 157 [.ref 0, .int x] h (h ++ [.inr (8, [])], .inr h.length)) : jw_su L xs 1002 [.ref 0, .int x, .ref o] h (h ++ [.inr (8, [])], .inl (some (.int 1))) := by
  have key : jx_U (jw_TT L xs) (jw_h2.1.1, jw_h2.1.2.1, jw_h2.1.2.2.1, jw_h2.1.2.2.2.1, fun pc ci => jx_hdl (jw_TT L xs) jw_h2.1.1 pc ci jw_h2.1.2.2.2.2) (fun _ => none) (jw_sh L xs) (fun hf v' => hf = h ++ [.inr (8, [])] ∧ v' = some (.int 1)) (0, [some (.ref 0), some (.int x), some (.ref o), none], [], h) := by
    refine ju_1 lh2_0 rfl rfl ?_
    refine ju_1 lh2_1 rfl rfl ?_
    refine ju_1 lh2_2 rfl rfl ?_
    refine ju_1 lh2_3 rfl rfl ?_
    refine ju_t lh2_4 rfl (ju_cv (n := 1) (ci := 0) (m2 := 157) (bs := [.int x]) (r := [.int (Int32.ofInt 0), .ref o]) (by decide +kernel) c0 rfl rfl rfl) q (jx_cls_push hb) (pc2 := 12) (show jx_hdl (jw_TT L xs) 22 4 8 _ = some 12 from jh_hd2_8) ?_
    refine ju_1 lh2_12 rfl rfl ?_
    refine ju_1 lh2_13 rfl rfl ?_
    exact ju_r lh2_14 rfl rfl ⟨rfl, rfl⟩
  obtain ⟨g, key⟩ := key
  exact ⟨_, rfl, Or.inr ⟨_, _, _, _, _, _, g, rfl, (by show 3 ≤ 4; decide), key⟩⟩
end JH
