/-! ===== the law's loop (printed by program: gen12.py) ===== -/
theorem jw_and7 (x : Int32) : ∃ c : Nat, c < 8 ∧ x &&& 7 = Int32.ofNat c := by
  refine ⟨(x.toBitVec &&& 7#32).toNat, ?_, ?_⟩
  · rw [BitVec.toNat_and]
    exact Nat.lt_of_le_of_lt Nat.and_le_right (by decide)
  · apply Int32.toBitVec_inj.mp
    show x.toBitVec &&& 7#32 = BitVec.ofNat 32 _
    simp
theorem jw_add1 (n : Nat) : Int32.ofNat n + Int32.ofInt 1 = Int32.ofNat (n + 1) := by
  rw [Int32.ofNat_add]
  rfl
theorem jw_add2 (n : Nat) : Int32.ofNat n + Int32.ofInt 2 = Int32.ofNat (n + 2) := by
  rw [Int32.ofNat_add]
  rfl
section JWO
variable {L : Nat} {xs : Nat → Int32} {n m o : Nat} {k0 b0 : Option Value} {h : jx_H}
theorem jv_go {pc t : Nat} {off : Int} {lo : jx_L} {st : List Value} (e : jx_to pc off = some t) : jx_do (jw_TT L xs) (jw_cd cd_law) 22 pc (some .boolean, false) (.goto off) lo st h = some (.inl (t, lo, st, h)) := by
  simp only [jx_do, jx_go, e]
theorem jv_eq {pc t : Nat} {off : Int} {lo : jx_L} {r : List Value} {x : Int32} (e : jx_to pc off = some t) (h0 : 0 ≤ (pc : Int) + off) : jx_do (jw_TT L xs) (jw_cd cd_law) 22 pc (some .boolean, false) (.if_icmp .eq off) lo (.int x :: .int x :: r) h = some (.inl (t, lo, r, h)) := by
  simp only [jx_do, jx_hold, beq_self_eq_true, jx_br, jx_go, e, if_pos h0]
theorem jv_341 (k : jw_V L xs (23, jw_lo m o (Int32.ofNat (n + 2)) k0 b0, [], h)) : jw_V L xs (341, jw_lo m o (Int32.ofNat n) k0 b0, [], h) := by
  refine jv_1 lc_341 (F2 := (344, jw_lo m o (Int32.ofNat n + Int32.ofInt 2) k0 b0, [], h)) rfl rfl ?_
  rw [jw_add2]
  exact jv_1 lc_344 rfl (jv_go (by decide)) k
/-- the loop's head before a call: up to the switch -/
theorem jv_in (hL : L ≤ 1024) (hn : n + 2 ≤ L) {pc c : Nat} {off : Int} (hc : xs n &&& 7 = Int32.ofNat c) (h8 : c < 8) (hoff : (#[45, 101, 114, 158, 214, 227, 252, 277] : Array Int)[c]? = some off) (hpc : jx_to 39 off = some pc) (k : jw_V L xs (pc, jw_lo m o (Int32.ofNat n) k0 b0, [], h)) : jw_V L xs (23, jw_lo m o (Int32.ofNat n) k0 b0, [], h) := by
  have hj := jw_inL (L := L) (j := n) hL (by omega)
  refine jv_1 lc_23 rfl rfl ?_
  refine jv_1 lc_25 rfl rfl ?_
  refine jv_1 lc_26 (F2 := (27, jw_lo m o (Int32.ofNat n) k0 b0, [.int (Int32.ofNat L), .int (Int32.ofNat n)], h)) rfl rfl ?_
  refine jv_1 lc_27 rfl rfl ?_
  refine jv_1 lc_28 rfl rfl ?_
  refine jv_1 lc_29 (F2 := (32, jw_lo m o (Int32.ofNat n) k0 b0, [], h)) rfl ?_ ?_
  · show jx_br (jx_hold .gt (Int32.ofNat n) (Int32.ofNat L - 2)) 29 318 _ _ _ = _
    rw [jw_gt hL (by omega), decide_eq_false (by omega)]
    rfl
  refine jv_1 lc_32 rfl rfl ?_
  refine jv_1 lc_33 rfl rfl ?_
  refine jv_1 lc_35 rfl (jw_ial hj.1) ?_
  rw [hj.2]
  refine jv_1 lc_36 rfl rfl ?_
  refine jv_1 lc_38 (F2 := (39, jw_lo m o (Int32.ofNat n) k0 b0, [.int (xs n &&& 7)], h)) rfl rfl ?_
  rw [hc]
  have e1 : (Int32.ofNat c).toInt = c := jw_i32 (by omega)
  refine jv_1 lc_39 (F2 := (pc, jw_lo m o (Int32.ofNat n) k0 b0, [], h)) rfl ?_ k
  simp only [jx_do]
  rw [e1, if_neg (by omega)]
  have e2 : ((c : Int) - 0).toNat = c := by omega
  rw [e2, hoff]
  simp only [jx_go, hpc]
theorem lg_cmp_self (x : Int64) : lg_cmp x x = 0 := by
  unfold lg_cmp
  simp
theorem jv_cv {pc k n a ci m2 : Nat} {bs r : List Value} {lo : jx_L} {st : List Value} (hcv : (jw_find jw_cvT 22 k) = some (n, [(ci, m2)])) (hc : jx_cls (jw_TT L xs) h a = some ci) (hn : bs.length = n) (hst : st = bs.reverse ++ .ref a :: r) (hw : jx_wt r = true) : jx_do (jw_TT L xs) (jw_cd cd_law) 22 pc (some .boolean, false) (.invokevirtual k) lo st h = some (.inr (.inl (m2, .ref a :: bs, r))) := by
  have e1 : jx_cv (jw_TT L xs) 22 k = some (n, jw_ls [(ci, m2)]) := by
    show jw_cv 22 k = _
    unfold jw_cv
    rw [hcv]
  have e2 : jx_args n st = some (bs, .ref a :: r) := by
    subst hn
    subst hst
    unfold jx_args
    rw [if_pos (by simp)]
    rw [← List.length_reverse, List.take_left, List.drop_left, List.reverse_reverse]
  have e3 : jw_ls [(ci, m2)] ci = some m2 := by
    unfold jw_ls
    simp
  simp only [jx_do, e1, e2, hc, e3, hw]
  rfl
theorem jv_letter (hL : L ≤ 1024) (hn : n + 2 ≤ L) {h1 h2 h3 : jx_H} {k b : Int32} (q1 : jw_su L xs 1000 [.ref 0, .int (xs (n + 1)), .ref o] h (h1, .inl (some (.int k)))) (c1 : jx_cls (jw_TT L xs) h1 m = some 16) (q2 : jw_su L xs 210 [.ref m, .int (xs (n + 1))] h1 (h2, .inl (some (.int b)))) (c2 : jx_cls (jw_TT L xs) h2 m = some 16) (q3 : jw_su L xs 209 [.ref m] h2 (h3, .inl (some (.int k)))) (ho : k = 0 → ∃ f : Nat → Value, jx_arr (jw_TT L xs) h3 o = some (1, 1, f) ∧ f 0 = .long b.toInt64)
    (kk : jw_V L xs (23, jw_lo m o (Int32.ofNat (n + 2)) (some (.int k)) (some (.int b)), [], h3)) : jw_V L xs (84, jw_lo m o (Int32.ofNat n) k0 b0, [], h) := by
  have hj := jw_inL (L := L) (j := n + 1) hL (by omega)
  refine jv_1 lc_84 rfl rfl ?_
  refine jv_1 lc_85 rfl rfl ?_
  refine jv_1 lc_86 rfl rfl ?_
  refine jv_1 lc_88 rfl rfl ?_
  refine jv_1 lc_89 (F2 := (90, jw_lo m o (Int32.ofNat n) k0 b0, .int (Int32.ofNat n + Int32.ofInt 1) :: .ref (jx_big + 54) :: [.ref 0], _)) rfl rfl ?_
  rw [jw_add1]
  refine jv_1 lc_90 rfl (jw_ial hj.1) ?_
  rw [hj.2]
  refine jv_1 lc_91 rfl rfl ?_
  refine jv_x lc_92 (m2 := 1000) (as := [.ref 0, .int (xs (n + 1)), .ref o]) (r := []) rfl q1 ?_
  refine jv_1 lc_95 (F2 := (97, jw_lo m o (Int32.ofNat n) (some (.int k)) b0, [], h1)) rfl rfl ?_
  refine jv_1 lc_97 rfl rfl ?_
  refine jv_1 lc_98 rfl rfl ?_
  refine jv_1 lc_99 rfl rfl ?_
  refine jv_1 lc_101 rfl rfl ?_
  refine jv_1 lc_102 (F2 := (103, jw_lo m o (Int32.ofNat n) (some (.int k)) b0, .int (Int32.ofNat n + Int32.ofInt 1) :: .ref (jx_big + 54) :: [.ref m], _)) rfl rfl ?_
  rw [jw_add1]
  refine jv_1 lc_103 rfl (jw_ial hj.1) ?_
  rw [hj.2]
  refine jv_c lc_104 (m2 := 210) (as := [.ref m, .int (xs (n + 1))]) (r := []) rfl (jv_cv (n := 1) (bs := [.int (xs (n + 1))]) (r := []) (by decide +kernel) c1 rfl rfl rfl) q2 ?_
  refine jv_1 lc_107 (F2 := (109, jw_lo m o (Int32.ofNat n) (some (.int k)) (some (.int b)), [], h2)) rfl rfl ?_
  refine jv_1 lc_109 rfl rfl ?_
  refine jv_c lc_110 (m2 := 209) (as := [.ref m]) (r := []) rfl (jv_cv (n := 0) (bs := []) (r := []) (by decide +kernel) c2 rfl rfl rfl) q3 ?_
  refine jv_1 lc_113 rfl rfl ?_
  refine jv_1 lc_115 (F2 := (120, jw_lo m o (Int32.ofNat n) (some (.int k)) (some (.int b)), [], h3)) rfl (jv_eq (by decide) (by decide)) ?_
  refine jv_1 lc_120 rfl rfl ?_
  by_cases hk : k = 0
  · refine jv_1 lc_122 (F2 := (125, jw_lo m o (Int32.ofNat n) (some (.int k)) (some (.int b)), [], h3)) rfl ?_ ?_
    · show jx_br (!(k == 0)) 122 15 _ _ _ = _
      rw [hk]
      rfl
    obtain ⟨f, e1, e2⟩ := ho hk
    refine jv_1 lc_125 rfl rfl ?_
    refine jv_1 lc_126 rfl rfl ?_
    refine jv_1 lc_127 (F2 := (128, jw_lo m o (Int32.ofNat n) (some (.int k)) (some (.int b)), [.long b.toInt64], h3)) rfl ?_ ?_
    · simp only [jx_do, jx_ald]
      rw [e1]
      show some (Sum.inl (_, _, f 0 :: _, _)) = _
      rw [e2]
    refine jv_1 lc_128 rfl rfl ?_
    refine jv_1 lc_130 rfl rfl ?_
    refine jv_1 lc_131 (F2 := (132, jw_lo m o (Int32.ofNat n) (some (.int k)) (some (.int b)), [.int 0], h3)) rfl ?_ ?_
    · show some (Sum.inl (_, _, [Value.int (lg_cmp b.toInt64 b.toInt64)], _)) = _
      rw [lg_cmp_self]
    refine jv_1 lc_132 (F2 := (137, jw_lo m o (Int32.ofNat n) (some (.int k)) (some (.int b)), [], h3)) rfl rfl ?_
    exact jv_1 lc_137 rfl (jv_go (by decide)) (jv_341 kk)
  · refine jv_1 lc_122 (F2 := (137, jw_lo m o (Int32.ofNat n) (some (.int k)) (some (.int b)), [], h3)) rfl ?_ ?_
    · show jx_br (!(k == 0)) 122 15 _ _ _ = _
      rw [beq_eq_false_iff_ne.mpr hk]
      rfl
    exact jv_1 lc_137 rfl (jv_go (by decide)) (jv_341 kk)
theorem jv_query (hL : L ≤ 1024) (hn : n + 2 ≤ L) {h1 h2 h3 : jx_H} {k b : Int32} (q1 : jw_su L xs 1001 [.ref 0, .ref o] h (h1, .inl (some (.int k)))) (c1 : jx_cls (jw_TT L xs) h1 m = some 16) (q2 : jw_su L xs 232 [.ref m] h1 (h2, .inl (some (.int b)))) (c2 : jx_cls (jw_TT L xs) h2 m = some 16) (q3 : jw_su L xs 209 [.ref m] h2 (h3, .inl (some (.int k)))) (ho : k = 0 → ∃ f : Nat → Value, jx_arr (jw_TT L xs) h3 o = some (1, 1, f) ∧ f 0 = .long b.toInt64)
    (kk : jw_V L xs (23, jw_lo m o (Int32.ofNat (n + 2)) (some (.int k)) (some (.int b)), [], h3)) : jw_V L xs (153, jw_lo m o (Int32.ofNat n) k0 b0, [], h) := by
  have hj := jw_inL (L := L) (j := n + 1) hL (by omega)
  refine jv_1 lc_153 rfl rfl ?_
  refine jv_1 lc_154 rfl rfl ?_
  refine jv_x lc_155 (m2 := 1001) (as := [.ref 0, .ref o]) (r := []) rfl q1 ?_
  refine jv_1 lc_158 (F2 := (160, jw_lo m o (Int32.ofNat n) (some (.int k)) b0, [], h1)) rfl rfl ?_
  refine jv_1 lc_160 rfl rfl ?_
  refine jv_c lc_161 (m2 := 232) (as := [.ref m]) (r := []) rfl (jv_cv (n := 0) (bs := []) (r := []) (by decide +kernel) c1 rfl rfl rfl) q2 ?_
  refine jv_1 lc_164 (F2 := (166, jw_lo m o (Int32.ofNat n) (some (.int k)) (some (.int b)), [], h2)) rfl rfl ?_
  refine jv_1 lc_166 rfl rfl ?_
  refine jv_c lc_167 (m2 := 209) (as := [.ref m]) (r := []) rfl (jv_cv (n := 0) (bs := []) (r := []) (by decide +kernel) c2 rfl rfl rfl) q3 ?_
  refine jv_1 lc_170 rfl rfl ?_
  refine jv_1 lc_172 (F2 := (177, jw_lo m o (Int32.ofNat n) (some (.int k)) (some (.int b)), [], h3)) rfl (jv_eq (by decide) (by decide)) ?_
  refine jv_1 lc_177 rfl rfl ?_
  by_cases hk : k = 0
  · refine jv_1 lc_179 (F2 := (182, jw_lo m o (Int32.ofNat n) (some (.int k)) (some (.int b)), [], h3)) rfl ?_ ?_
    · show jx_br (!(k == 0)) 179 15 _ _ _ = _
      rw [hk]
      rfl
    obtain ⟨f, e1, e2⟩ := ho hk
    refine jv_1 lc_182 rfl rfl ?_
    refine jv_1 lc_183 rfl rfl ?_
    refine jv_1 lc_184 (F2 := (185, jw_lo m o (Int32.ofNat n) (some (.int k)) (some (.int b)), [.long b.toInt64], h3)) rfl ?_ ?_
    · simp only [jx_do, jx_ald]
      rw [e1]
      show some (Sum.inl (_, _, f 0 :: _, _)) = _
      rw [e2]
    refine jv_1 lc_185 rfl rfl ?_
    refine jv_1 lc_187 rfl rfl ?_
    refine jv_1 lc_188 (F2 := (189, jw_lo m o (Int32.ofNat n) (some (.int k)) (some (.int b)), [.int 0], h3)) rfl ?_ ?_
    · show some (Sum.inl (_, _, [Value.int (lg_cmp b.toInt64 b.toInt64)], _)) = _
      rw [lg_cmp_self]
    refine jv_1 lc_189 (F2 := (194, jw_lo m o (Int32.ofNat n) (some (.int k)) (some (.int b)), [], h3)) rfl rfl ?_
    exact jv_1 lc_194 rfl (jv_go (by decide)) (jv_341 kk)
  · refine jv_1 lc_179 (F2 := (194, jw_lo m o (Int32.ofNat n) (some (.int k)) (some (.int b)), [], h3)) rfl ?_ ?_
    · show jx_br (!(k == 0)) 179 15 _ _ _ = _
      rw [beq_eq_false_iff_ne.mpr hk]
      rfl
    exact jv_1 lc_194 rfl (jv_go (by decide)) (jv_341 kk)
theorem jv_run (hL : L ≤ 1024) (hn : n + 2 ≤ L) {h1 h2 h3 : jx_H} {k b : Int32} (q1 : jw_su L xs 1002 [.ref 0, .int (xs (n + 1)), .ref o] h (h1, .inl (some (.int k)))) (c1 : jx_cls (jw_TT L xs) h1 m = some 16) (q2 : jw_su L xs 245 [.ref m, .int (xs (n + 1))] h1 (h2, .inl (some (.int b)))) (c2 : jx_cls (jw_TT L xs) h2 m = some 16) (q3 : jw_su L xs 209 [.ref m] h2 (h3, .inl (some (.int k)))) (ho : k = 0 → ∃ f : Nat → Value, jx_arr (jw_TT L xs) h3 o = some (1, 1, f) ∧ f 0 = .long b.toInt64)
    (kk : jw_V L xs (23, jw_lo m o (Int32.ofNat (n + 2)) (some (.int k)) (some (.int b)), [], h3)) : jw_V L xs (197, jw_lo m o (Int32.ofNat n) k0 b0, [], h) := by
  have hj := jw_inL (L := L) (j := n + 1) hL (by omega)
  refine jv_1 lc_197 rfl rfl ?_
  refine jv_1 lc_198 rfl rfl ?_
  refine jv_1 lc_199 rfl rfl ?_
  refine jv_1 lc_201 rfl rfl ?_
  refine jv_1 lc_202 (F2 := (203, jw_lo m o (Int32.ofNat n) k0 b0, .int (Int32.ofNat n + Int32.ofInt 1) :: .ref (jx_big + 54) :: [.ref 0], _)) rfl rfl ?_
  rw [jw_add1]
  refine jv_1 lc_203 rfl (jw_ial hj.1) ?_
  rw [hj.2]
  refine jv_1 lc_204 rfl rfl ?_
  refine jv_x lc_205 (m2 := 1002) (as := [.ref 0, .int (xs (n + 1)), .ref o]) (r := []) rfl q1 ?_
  refine jv_1 lc_208 (F2 := (210, jw_lo m o (Int32.ofNat n) (some (.int k)) b0, [], h1)) rfl rfl ?_
  refine jv_1 lc_210 rfl rfl ?_
  refine jv_1 lc_211 rfl rfl ?_
  refine jv_1 lc_212 rfl rfl ?_
  refine jv_1 lc_214 rfl rfl ?_
  refine jv_1 lc_215 (F2 := (216, jw_lo m o (Int32.ofNat n) (some (.int k)) b0, .int (Int32.ofNat n + Int32.ofInt 1) :: .ref (jx_big + 54) :: [.ref m], _)) rfl rfl ?_
  rw [jw_add1]
  refine jv_1 lc_216 rfl (jw_ial hj.1) ?_
  rw [hj.2]
  refine jv_c lc_217 (m2 := 245) (as := [.ref m, .int (xs (n + 1))]) (r := []) rfl (jv_cv (n := 1) (bs := [.int (xs (n + 1))]) (r := []) (by decide +kernel) c1 rfl rfl rfl) q2 ?_
  refine jv_1 lc_220 (F2 := (222, jw_lo m o (Int32.ofNat n) (some (.int k)) (some (.int b)), [], h2)) rfl rfl ?_
  refine jv_1 lc_222 rfl rfl ?_
  refine jv_c lc_223 (m2 := 209) (as := [.ref m]) (r := []) rfl (jv_cv (n := 0) (bs := []) (r := []) (by decide +kernel) c2 rfl rfl rfl) q3 ?_
  refine jv_1 lc_226 rfl rfl ?_
  refine jv_1 lc_228 (F2 := (233, jw_lo m o (Int32.ofNat n) (some (.int k)) (some (.int b)), [], h3)) rfl (jv_eq (by decide) (by decide)) ?_
  refine jv_1 lc_233 rfl rfl ?_
  by_cases hk : k = 0
  · refine jv_1 lc_235 (F2 := (238, jw_lo m o (Int32.ofNat n) (some (.int k)) (some (.int b)), [], h3)) rfl ?_ ?_
    · show jx_br (!(k == 0)) 235 15 _ _ _ = _
      rw [hk]
      rfl
    obtain ⟨f, e1, e2⟩ := ho hk
    refine jv_1 lc_238 rfl rfl ?_
    refine jv_1 lc_239 rfl rfl ?_
    refine jv_1 lc_240 (F2 := (241, jw_lo m o (Int32.ofNat n) (some (.int k)) (some (.int b)), [.long b.toInt64], h3)) rfl ?_ ?_
    · simp only [jx_do, jx_ald]
      rw [e1]
      show some (Sum.inl (_, _, f 0 :: _, _)) = _
      rw [e2]
    refine jv_1 lc_241 rfl rfl ?_
    refine jv_1 lc_243 rfl rfl ?_
    refine jv_1 lc_244 (F2 := (245, jw_lo m o (Int32.ofNat n) (some (.int k)) (some (.int b)), [.int 0], h3)) rfl ?_ ?_
    · show some (Sum.inl (_, _, [Value.int (lg_cmp b.toInt64 b.toInt64)], _)) = _
      rw [lg_cmp_self]
    refine jv_1 lc_245 (F2 := (250, jw_lo m o (Int32.ofNat n) (some (.int k)) (some (.int b)), [], h3)) rfl rfl ?_
    exact jv_1 lc_250 rfl (jv_go (by decide)) (jv_341 kk)
  · refine jv_1 lc_235 (F2 := (250, jw_lo m o (Int32.ofNat n) (some (.int k)) (some (.int b)), [], h3)) rfl ?_ ?_
    · show jx_br (!(k == 0)) 235 15 _ _ _ = _
      rw [beq_eq_false_iff_ne.mpr hk]
      rfl
    exact jv_1 lc_250 rfl (jv_go (by decide)) (jv_341 kk)
theorem jv_load (hL : L ≤ 1024) (hn : n + 2 ≤ L) {h1 h2 : jx_H} {k : Int32} (c0 : jx_cls (jw_TT L xs) h 0 = some 0) (q1 : jw_su L xs 56 [.ref 0] h (h1, .inl (some (.int k)))) (c1 : jx_cls (jw_TT L xs) h1 m = some 16) (q2 : jw_su L xs 211 [.ref m] h1 (h2, .inl (some (.int k))))
    (kk : jw_V L xs (23, jw_lo m o (Int32.ofNat (n + 2)) k0 b0, [], h2)) : jw_V L xs (140, jw_lo m o (Int32.ofNat n) k0 b0, [], h) := by
  refine jv_1 lc_140 rfl rfl ?_
  refine jv_c lc_141 (m2 := 56) (as := [.ref 0]) (r := []) rfl (jv_cv (n := 0) (bs := []) (r := []) (by decide +kernel) c0 rfl rfl rfl) q1 ?_
  refine jv_1 lc_144 rfl rfl ?_
  refine jv_c lc_145 (m2 := 211) (as := [.ref m]) (r := [.int k]) rfl (jv_cv (n := 0) (bs := []) (r := [.int k]) (by decide +kernel) c1 rfl rfl rfl) q2 ?_
  refine jv_1 lc_148 (F2 := (341, jw_lo m o (Int32.ofNat n) k0 b0, [], h2)) rfl (jv_eq (by decide) (by decide)) ?_
  exact jv_341 kk
theorem jv_keep (hL : L ≤ 1024) (hn : n + 2 ≤ L) {h1 h2 : jx_H} {k : Int32} (c0 : jx_cls (jw_TT L xs) h 0 = some 0) (q1 : jw_su L xs 106 [.ref 0] h (h1, .inl (some (.int k)))) (c1 : jx_cls (jw_TT L xs) h1 m = some 16) (q2 : jw_su L xs 273 [.ref m] h1 (h2, .inl (some (.int k))))
    (kk : jw_V L xs (23, jw_lo m o (Int32.ofNat (n + 2)) k0 b0, [], h2)) : jw_V L xs (253, jw_lo m o (Int32.ofNat n) k0 b0, [], h) := by
  refine jv_1 lc_253 rfl rfl ?_
  refine jv_c lc_254 (m2 := 106) (as := [.ref 0]) (r := []) rfl (jv_cv (n := 0) (bs := []) (r := []) (by decide +kernel) c0 rfl rfl rfl) q1 ?_
  refine jv_1 lc_257 rfl rfl ?_
  refine jv_c lc_258 (m2 := 273) (as := [.ref m]) (r := [.int k]) rfl (jv_cv (n := 0) (bs := []) (r := [.int k]) (by decide +kernel) c1 rfl rfl rfl) q2 ?_
  refine jv_1 lc_261 (F2 := (341, jw_lo m o (Int32.ofNat n) k0 b0, [], h2)) rfl (jv_eq (by decide) (by decide)) ?_
  exact jv_341 kk
theorem jv_result (hL : L ≤ 1024) (hn : n + 2 ≤ L) {h1 h2 : jx_H} {k : Int32} (c0 : jx_cls (jw_TT L xs) h 0 = some 0) (q1 : jw_su L xs 107 [.ref 0, .int (xs (n + 1))] h (h1, .inl (some (.int k)))) (c1 : jx_cls (jw_TT L xs) h1 m = some 16) (q2 : jw_su L xs 274 [.ref m, .int (xs (n + 1))] h1 (h2, .inl (some (.int k))))
    (kk : jw_V L xs (23, jw_lo m o (Int32.ofNat (n + 2)) k0 b0, [], h2)) : jw_V L xs (266, jw_lo m o (Int32.ofNat n) k0 b0, [], h) := by
  have hj := jw_inL (L := L) (j := n + 1) hL (by omega)
  refine jv_1 lc_266 rfl rfl ?_
  refine jv_1 lc_267 rfl rfl ?_
  refine jv_1 lc_268 rfl rfl ?_
  refine jv_1 lc_270 rfl rfl ?_
  refine jv_1 lc_271 (F2 := (272, jw_lo m o (Int32.ofNat n) k0 b0, .int (Int32.ofNat n + Int32.ofInt 1) :: .ref (jx_big + 54) :: [.ref 0], _)) rfl rfl ?_
  rw [jw_add1]
  refine jv_1 lc_272 rfl (jw_ial hj.1) ?_
  rw [hj.2]
  refine jv_c lc_273 (m2 := 107) (as := [.ref 0, .int (xs (n + 1))]) (r := []) rfl (jv_cv (n := 1) (bs := [.int (xs (n + 1))]) (r := []) (by decide +kernel) c0 rfl rfl rfl) q1 ?_
  refine jv_1 lc_276 rfl rfl ?_
  refine jv_1 lc_277 rfl rfl ?_
  refine jv_1 lc_278 rfl rfl ?_
  refine jv_1 lc_280 rfl rfl ?_
  refine jv_1 lc_281 (F2 := (282, jw_lo m o (Int32.ofNat n) k0 b0, .int (Int32.ofNat n + Int32.ofInt 1) :: .ref (jx_big + 54) :: [.ref m, .int k], _)) rfl rfl ?_
  rw [jw_add1]
  refine jv_1 lc_282 rfl (jw_ial hj.1) ?_
  rw [hj.2]
  refine jv_c lc_283 (m2 := 274) (as := [.ref m, .int (xs (n + 1))]) (r := [.int k]) rfl (jv_cv (n := 1) (bs := [.int (xs (n + 1))]) (r := [.int k]) (by decide +kernel) c1 rfl rfl rfl) q2 ?_
  refine jv_1 lc_286 (F2 := (341, jw_lo m o (Int32.ofNat n) k0 b0, [], h2)) rfl (jv_eq (by decide) (by decide)) ?_
  exact jv_341 kk
theorem jv_written (hL : L ≤ 1024) (hn : n + 2 ≤ L) {h1 h2 : jx_H} {k : Int32} (c0 : jx_cls (jw_TT L xs) h 0 = some 0) (q1 : jw_su L xs 109 [.ref 0, .int (xs (n + 1))] h (h1, .inl (some (.int k)))) (c1 : jx_cls (jw_TT L xs) h1 m = some 16) (q2 : jw_su L xs 280 [.ref m, .int (xs (n + 1))] h1 (h2, .inl (some (.int k))))
    (kk : jw_V L xs (23, jw_lo m o (Int32.ofNat (n + 2)) k0 b0, [], h2)) : jw_V L xs (291, jw_lo m o (Int32.ofNat n) k0 b0, [], h) := by
  have hj := jw_inL (L := L) (j := n + 1) hL (by omega)
  refine jv_1 lc_291 rfl rfl ?_
  refine jv_1 lc_292 rfl rfl ?_
  refine jv_1 lc_293 rfl rfl ?_
  refine jv_1 lc_295 rfl rfl ?_
  refine jv_1 lc_296 (F2 := (297, jw_lo m o (Int32.ofNat n) k0 b0, .int (Int32.ofNat n + Int32.ofInt 1) :: .ref (jx_big + 54) :: [.ref 0], _)) rfl rfl ?_
  rw [jw_add1]
  refine jv_1 lc_297 rfl (jw_ial hj.1) ?_
  rw [hj.2]
  refine jv_c lc_298 (m2 := 109) (as := [.ref 0, .int (xs (n + 1))]) (r := []) rfl (jv_cv (n := 1) (bs := [.int (xs (n + 1))]) (r := []) (by decide +kernel) c0 rfl rfl rfl) q1 ?_
  refine jv_1 lc_301 rfl rfl ?_
  refine jv_1 lc_302 rfl rfl ?_
  refine jv_1 lc_303 rfl rfl ?_
  refine jv_1 lc_305 rfl rfl ?_
  refine jv_1 lc_306 (F2 := (307, jw_lo m o (Int32.ofNat n) k0 b0, .int (Int32.ofNat n + Int32.ofInt 1) :: .ref (jx_big + 54) :: [.ref m, .int k], _)) rfl rfl ?_
  rw [jw_add1]
  refine jv_1 lc_307 rfl (jw_ial hj.1) ?_
  rw [hj.2]
  refine jv_c lc_308 (m2 := 280) (as := [.ref m, .int (xs (n + 1))]) (r := [.int k]) rfl (jv_cv (n := 1) (bs := [.int (xs (n + 1))]) (r := [.int k]) (by decide +kernel) c1 rfl rfl rfl) q2 ?_
  refine jv_1 lc_311 (F2 := (341, jw_lo m o (Int32.ofNat n) k0 b0, [], h2)) rfl (jv_eq (by decide) (by decide)) ?_
  exact jv_341 kk
theorem jv_about (hL : L ≤ 1024) (hn : n + 2 ≤ L) {h1 h2 : jx_H} {k : Int32} (c0 : jx_cls (jw_TT L xs) h 0 = some 0) (q1 : jw_su L xs 112 [.ref 0, .int (xs (n + 1))] h (h1, .inl (some (.int k)))) (c1 : jx_cls (jw_TT L xs) h1 m = some 16) (q2 : jw_su L xs 281 [.ref m, .int (xs (n + 1))] h1 (h2, .inl (some (.int k))))
    (kk : jw_V L xs (23, jw_lo m o (Int32.ofNat (n + 2)) k0 b0, [], h2)) : jw_V L xs (316, jw_lo m o (Int32.ofNat n) k0 b0, [], h) := by
  have hj := jw_inL (L := L) (j := n + 1) hL (by omega)
  refine jv_1 lc_316 rfl rfl ?_
  refine jv_1 lc_317 rfl rfl ?_
  refine jv_1 lc_318 rfl rfl ?_
  refine jv_1 lc_320 rfl rfl ?_
  refine jv_1 lc_321 (F2 := (322, jw_lo m o (Int32.ofNat n) k0 b0, .int (Int32.ofNat n + Int32.ofInt 1) :: .ref (jx_big + 54) :: [.ref 0], _)) rfl rfl ?_
  rw [jw_add1]
  refine jv_1 lc_322 rfl (jw_ial hj.1) ?_
  rw [hj.2]
  refine jv_c lc_323 (m2 := 112) (as := [.ref 0, .int (xs (n + 1))]) (r := []) rfl (jv_cv (n := 1) (bs := [.int (xs (n + 1))]) (r := []) (by decide +kernel) c0 rfl rfl rfl) q1 ?_
  refine jv_1 lc_326 rfl rfl ?_
  refine jv_1 lc_327 rfl rfl ?_
  refine jv_1 lc_328 rfl rfl ?_
  refine jv_1 lc_330 rfl rfl ?_
  refine jv_1 lc_331 (F2 := (332, jw_lo m o (Int32.ofNat n) k0 b0, .int (Int32.ofNat n + Int32.ofInt 1) :: .ref (jx_big + 54) :: [.ref m, .int k], _)) rfl rfl ?_
  rw [jw_add1]
  refine jv_1 lc_332 rfl (jw_ial hj.1) ?_
  rw [hj.2]
  refine jv_c lc_333 (m2 := 281) (as := [.ref m, .int (xs (n + 1))]) (r := [.int k]) rfl (jv_cv (n := 1) (bs := [.int (xs (n + 1))]) (r := [.int k]) (by decide +kernel) c1 rfl rfl rfl) q2 ?_
  refine jv_1 lc_336 (F2 := (341, jw_lo m o (Int32.ofNat n) k0 b0, [], h2)) rfl (jv_eq (by decide) (by decide)) ?_
  exact jv_341 kk
end JWO
