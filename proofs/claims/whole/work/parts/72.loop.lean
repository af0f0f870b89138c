/-! ===== the law's instructions, one by one (printed by program: gen11.py) ===== -/
theorem lc_0 : jw_cd cd_law 0 = some (.new 8) := by decide +kernel
theorem lc_3 : jw_cd cd_law 3 = some (.dup) := by decide +kernel
theorem lc_4 : jw_cd cd_law 4 = some (.invokespecial 24) := by decide +kernel
theorem lc_7 : jw_cd cd_law 7 = some (.astore_n 1) := by decide +kernel
theorem lc_8 : jw_cd cd_law 8 = some (.new 25) := by decide +kernel
theorem lc_11 : jw_cd cd_law 11 = some (.dup) := by decide +kernel
theorem lc_12 : jw_cd cd_law 12 = some (.invokespecial 27) := by decide +kernel
theorem lc_15 : jw_cd cd_law 15 = some (.astore_n 2) := by decide +kernel
theorem lc_16 : jw_cd cd_law 16 = some (.iconst 1) := by decide +kernel
theorem lc_17 : jw_cd cd_law 17 = some (.newarray .long) := by decide +kernel
theorem lc_19 : jw_cd cd_law 19 = some (.astore_n 3) := by decide +kernel
theorem lc_20 : jw_cd cd_law 20 = some (.iconst 0) := by decide +kernel
theorem lc_21 : jw_cd cd_law 21 = some (.istore 4) := by decide +kernel
theorem lc_23 : jw_cd cd_law 23 = some (.iload 4) := by decide +kernel
theorem lc_25 : jw_cd cd_law 25 = some (.aload_n 0) := by decide +kernel
theorem lc_26 : jw_cd cd_law 26 = some (.arraylength) := by decide +kernel
theorem lc_27 : jw_cd cd_law 27 = some (.iconst 2) := by decide +kernel
theorem lc_28 : jw_cd cd_law 28 = some (.isub) := by decide +kernel
theorem lc_29 : jw_cd cd_law 29 = some (.if_icmp .gt 318) := by decide +kernel
theorem lc_32 : jw_cd cd_law 32 = some (.aload_n 0) := by decide +kernel
theorem lc_33 : jw_cd cd_law 33 = some (.iload 4) := by decide +kernel
theorem lc_35 : jw_cd cd_law 35 = some (.iaload) := by decide +kernel
theorem lc_36 : jw_cd cd_law 36 = some (.bipush 7) := by decide +kernel
theorem lc_38 : jw_cd cd_law 38 = some (.iand) := by decide +kernel
theorem lc_39 : jw_cd cd_law 39 = some (.tableswitch 302 0 7 #[45, 101, 114, 158, 214, 227, 252, 277]) := by decide +kernel
theorem lc_84 : jw_cd cd_law 84 = some (.aload_n 1) := by decide +kernel
theorem lc_85 : jw_cd cd_law 85 = some (.aload_n 0) := by decide +kernel
theorem lc_86 : jw_cd cd_law 86 = some (.iload 4) := by decide +kernel
theorem lc_88 : jw_cd cd_law 88 = some (.iconst 1) := by decide +kernel
theorem lc_89 : jw_cd cd_law 89 = some (.iadd) := by decide +kernel
theorem lc_90 : jw_cd cd_law 90 = some (.iaload) := by decide +kernel
theorem lc_91 : jw_cd cd_law 91 = some (.aload_n 3) := by decide +kernel
theorem lc_92 : jw_cd cd_law 92 = some (.invokestatic 28) := by decide +kernel
theorem lc_95 : jw_cd cd_law 95 = some (.istore 5) := by decide +kernel
theorem lc_97 : jw_cd cd_law 97 = some (.aload_n 2) := by decide +kernel
theorem lc_98 : jw_cd cd_law 98 = some (.aload_n 0) := by decide +kernel
theorem lc_99 : jw_cd cd_law 99 = some (.iload 4) := by decide +kernel
theorem lc_101 : jw_cd cd_law 101 = some (.iconst 1) := by decide +kernel
theorem lc_102 : jw_cd cd_law 102 = some (.iadd) := by decide +kernel
theorem lc_103 : jw_cd cd_law 103 = some (.iaload) := by decide +kernel
theorem lc_104 : jw_cd cd_law 104 = some (.invokevirtual 33) := by decide +kernel
theorem lc_107 : jw_cd cd_law 107 = some (.istore 6) := by decide +kernel
theorem lc_109 : jw_cd cd_law 109 = some (.aload_n 2) := by decide +kernel
theorem lc_110 : jw_cd cd_law 110 = some (.invokevirtual 34) := by decide +kernel
theorem lc_113 : jw_cd cd_law 113 = some (.iload 5) := by decide +kernel
theorem lc_115 : jw_cd cd_law 115 = some (.if_icmp .eq 5) := by decide +kernel
theorem lc_118 : jw_cd cd_law 118 = some (.iconst 0) := by decide +kernel
theorem lc_119 : jw_cd cd_law 119 = some (.ireturn) := by decide +kernel
theorem lc_120 : jw_cd cd_law 120 = some (.iload 5) := by decide +kernel
theorem lc_122 : jw_cd cd_law 122 = some (.ifCond .ne 15) := by decide +kernel
theorem lc_125 : jw_cd cd_law 125 = some (.aload_n 3) := by decide +kernel
theorem lc_126 : jw_cd cd_law 126 = some (.iconst 0) := by decide +kernel
theorem lc_127 : jw_cd cd_law 127 = some (.laload) := by decide +kernel
theorem lc_128 : jw_cd cd_law 128 = some (.iload 6) := by decide +kernel
theorem lc_130 : jw_cd cd_law 130 = some (.i2l) := by decide +kernel
theorem lc_131 : jw_cd cd_law 131 = some (.lcmp) := by decide +kernel
theorem lc_132 : jw_cd cd_law 132 = some (.ifCond .eq 5) := by decide +kernel
theorem lc_135 : jw_cd cd_law 135 = some (.iconst 0) := by decide +kernel
theorem lc_136 : jw_cd cd_law 136 = some (.ireturn) := by decide +kernel
theorem lc_137 : jw_cd cd_law 137 = some (.goto 204) := by decide +kernel
theorem lc_140 : jw_cd cd_law 140 = some (.aload_n 1) := by decide +kernel
theorem lc_141 : jw_cd cd_law 141 = some (.invokevirtual 37) := by decide +kernel
theorem lc_144 : jw_cd cd_law 144 = some (.aload_n 2) := by decide +kernel
theorem lc_145 : jw_cd cd_law 145 = some (.invokevirtual 40) := by decide +kernel
theorem lc_148 : jw_cd cd_law 148 = some (.if_icmp .eq 193) := by decide +kernel
theorem lc_151 : jw_cd cd_law 151 = some (.iconst 0) := by decide +kernel
theorem lc_152 : jw_cd cd_law 152 = some (.ireturn) := by decide +kernel
theorem lc_153 : jw_cd cd_law 153 = some (.aload_n 1) := by decide +kernel
theorem lc_154 : jw_cd cd_law 154 = some (.aload_n 3) := by decide +kernel
theorem lc_155 : jw_cd cd_law 155 = some (.invokestatic 41) := by decide +kernel
theorem lc_158 : jw_cd cd_law 158 = some (.istore 5) := by decide +kernel
theorem lc_160 : jw_cd cd_law 160 = some (.aload_n 2) := by decide +kernel
theorem lc_161 : jw_cd cd_law 161 = some (.invokevirtual 44) := by decide +kernel
theorem lc_164 : jw_cd cd_law 164 = some (.istore 6) := by decide +kernel
theorem lc_166 : jw_cd cd_law 166 = some (.aload_n 2) := by decide +kernel
theorem lc_167 : jw_cd cd_law 167 = some (.invokevirtual 34) := by decide +kernel
theorem lc_170 : jw_cd cd_law 170 = some (.iload 5) := by decide +kernel
theorem lc_172 : jw_cd cd_law 172 = some (.if_icmp .eq 5) := by decide +kernel
theorem lc_175 : jw_cd cd_law 175 = some (.iconst 0) := by decide +kernel
theorem lc_176 : jw_cd cd_law 176 = some (.ireturn) := by decide +kernel
theorem lc_177 : jw_cd cd_law 177 = some (.iload 5) := by decide +kernel
theorem lc_179 : jw_cd cd_law 179 = some (.ifCond .ne 15) := by decide +kernel
theorem lc_182 : jw_cd cd_law 182 = some (.aload_n 3) := by decide +kernel
theorem lc_183 : jw_cd cd_law 183 = some (.iconst 0) := by decide +kernel
theorem lc_184 : jw_cd cd_law 184 = some (.laload) := by decide +kernel
theorem lc_185 : jw_cd cd_law 185 = some (.iload 6) := by decide +kernel
theorem lc_187 : jw_cd cd_law 187 = some (.i2l) := by decide +kernel
theorem lc_188 : jw_cd cd_law 188 = some (.lcmp) := by decide +kernel
theorem lc_189 : jw_cd cd_law 189 = some (.ifCond .eq 5) := by decide +kernel
theorem lc_192 : jw_cd cd_law 192 = some (.iconst 0) := by decide +kernel
theorem lc_193 : jw_cd cd_law 193 = some (.ireturn) := by decide +kernel
theorem lc_194 : jw_cd cd_law 194 = some (.goto 147) := by decide +kernel
theorem lc_197 : jw_cd cd_law 197 = some (.aload_n 1) := by decide +kernel
theorem lc_198 : jw_cd cd_law 198 = some (.aload_n 0) := by decide +kernel
theorem lc_199 : jw_cd cd_law 199 = some (.iload 4) := by decide +kernel
theorem lc_201 : jw_cd cd_law 201 = some (.iconst 1) := by decide +kernel
theorem lc_202 : jw_cd cd_law 202 = some (.iadd) := by decide +kernel
theorem lc_203 : jw_cd cd_law 203 = some (.iaload) := by decide +kernel
theorem lc_204 : jw_cd cd_law 204 = some (.aload_n 3) := by decide +kernel
theorem lc_205 : jw_cd cd_law 205 = some (.invokestatic 45) := by decide +kernel
theorem lc_208 : jw_cd cd_law 208 = some (.istore 5) := by decide +kernel
theorem lc_210 : jw_cd cd_law 210 = some (.aload_n 2) := by decide +kernel
theorem lc_211 : jw_cd cd_law 211 = some (.aload_n 0) := by decide +kernel
theorem lc_212 : jw_cd cd_law 212 = some (.iload 4) := by decide +kernel
theorem lc_214 : jw_cd cd_law 214 = some (.iconst 1) := by decide +kernel
theorem lc_215 : jw_cd cd_law 215 = some (.iadd) := by decide +kernel
theorem lc_216 : jw_cd cd_law 216 = some (.iaload) := by decide +kernel
theorem lc_217 : jw_cd cd_law 217 = some (.invokevirtual 47) := by decide +kernel
theorem lc_220 : jw_cd cd_law 220 = some (.istore 6) := by decide +kernel
theorem lc_222 : jw_cd cd_law 222 = some (.aload_n 2) := by decide +kernel
theorem lc_223 : jw_cd cd_law 223 = some (.invokevirtual 34) := by decide +kernel
theorem lc_226 : jw_cd cd_law 226 = some (.iload 5) := by decide +kernel
theorem lc_228 : jw_cd cd_law 228 = some (.if_icmp .eq 5) := by decide +kernel
theorem lc_231 : jw_cd cd_law 231 = some (.iconst 0) := by decide +kernel
theorem lc_232 : jw_cd cd_law 232 = some (.ireturn) := by decide +kernel
theorem lc_233 : jw_cd cd_law 233 = some (.iload 5) := by decide +kernel
theorem lc_235 : jw_cd cd_law 235 = some (.ifCond .ne 15) := by decide +kernel
theorem lc_238 : jw_cd cd_law 238 = some (.aload_n 3) := by decide +kernel
theorem lc_239 : jw_cd cd_law 239 = some (.iconst 0) := by decide +kernel
theorem lc_240 : jw_cd cd_law 240 = some (.laload) := by decide +kernel
theorem lc_241 : jw_cd cd_law 241 = some (.iload 6) := by decide +kernel
theorem lc_243 : jw_cd cd_law 243 = some (.i2l) := by decide +kernel
theorem lc_244 : jw_cd cd_law 244 = some (.lcmp) := by decide +kernel
theorem lc_245 : jw_cd cd_law 245 = some (.ifCond .eq 5) := by decide +kernel
theorem lc_248 : jw_cd cd_law 248 = some (.iconst 0) := by decide +kernel
theorem lc_249 : jw_cd cd_law 249 = some (.ireturn) := by decide +kernel
theorem lc_250 : jw_cd cd_law 250 = some (.goto 91) := by decide +kernel
theorem lc_253 : jw_cd cd_law 253 = some (.aload_n 1) := by decide +kernel
theorem lc_254 : jw_cd cd_law 254 = some (.invokevirtual 48) := by decide +kernel
theorem lc_257 : jw_cd cd_law 257 = some (.aload_n 2) := by decide +kernel
theorem lc_258 : jw_cd cd_law 258 = some (.invokevirtual 51) := by decide +kernel
theorem lc_261 : jw_cd cd_law 261 = some (.if_icmp .eq 80) := by decide +kernel
theorem lc_264 : jw_cd cd_law 264 = some (.iconst 0) := by decide +kernel
theorem lc_265 : jw_cd cd_law 265 = some (.ireturn) := by decide +kernel
theorem lc_266 : jw_cd cd_law 266 = some (.aload_n 1) := by decide +kernel
theorem lc_267 : jw_cd cd_law 267 = some (.aload_n 0) := by decide +kernel
theorem lc_268 : jw_cd cd_law 268 = some (.iload 4) := by decide +kernel
theorem lc_270 : jw_cd cd_law 270 = some (.iconst 1) := by decide +kernel
theorem lc_271 : jw_cd cd_law 271 = some (.iadd) := by decide +kernel
theorem lc_272 : jw_cd cd_law 272 = some (.iaload) := by decide +kernel
theorem lc_273 : jw_cd cd_law 273 = some (.invokevirtual 52) := by decide +kernel
theorem lc_276 : jw_cd cd_law 276 = some (.aload_n 2) := by decide +kernel
theorem lc_277 : jw_cd cd_law 277 = some (.aload_n 0) := by decide +kernel
theorem lc_278 : jw_cd cd_law 278 = some (.iload 4) := by decide +kernel
theorem lc_280 : jw_cd cd_law 280 = some (.iconst 1) := by decide +kernel
theorem lc_281 : jw_cd cd_law 281 = some (.iadd) := by decide +kernel
theorem lc_282 : jw_cd cd_law 282 = some (.iaload) := by decide +kernel
theorem lc_283 : jw_cd cd_law 283 = some (.invokevirtual 55) := by decide +kernel
theorem lc_286 : jw_cd cd_law 286 = some (.if_icmp .eq 55) := by decide +kernel
theorem lc_289 : jw_cd cd_law 289 = some (.iconst 0) := by decide +kernel
theorem lc_290 : jw_cd cd_law 290 = some (.ireturn) := by decide +kernel
theorem lc_291 : jw_cd cd_law 291 = some (.aload_n 1) := by decide +kernel
theorem lc_292 : jw_cd cd_law 292 = some (.aload_n 0) := by decide +kernel
theorem lc_293 : jw_cd cd_law 293 = some (.iload 4) := by decide +kernel
theorem lc_295 : jw_cd cd_law 295 = some (.iconst 1) := by decide +kernel
theorem lc_296 : jw_cd cd_law 296 = some (.iadd) := by decide +kernel
theorem lc_297 : jw_cd cd_law 297 = some (.iaload) := by decide +kernel
theorem lc_298 : jw_cd cd_law 298 = some (.invokevirtual 56) := by decide +kernel
theorem lc_301 : jw_cd cd_law 301 = some (.aload_n 2) := by decide +kernel
theorem lc_302 : jw_cd cd_law 302 = some (.aload_n 0) := by decide +kernel
theorem lc_303 : jw_cd cd_law 303 = some (.iload 4) := by decide +kernel
theorem lc_305 : jw_cd cd_law 305 = some (.iconst 1) := by decide +kernel
theorem lc_306 : jw_cd cd_law 306 = some (.iadd) := by decide +kernel
theorem lc_307 : jw_cd cd_law 307 = some (.iaload) := by decide +kernel
theorem lc_308 : jw_cd cd_law 308 = some (.invokevirtual 59) := by decide +kernel
theorem lc_311 : jw_cd cd_law 311 = some (.if_icmp .eq 30) := by decide +kernel
theorem lc_314 : jw_cd cd_law 314 = some (.iconst 0) := by decide +kernel
theorem lc_315 : jw_cd cd_law 315 = some (.ireturn) := by decide +kernel
theorem lc_316 : jw_cd cd_law 316 = some (.aload_n 1) := by decide +kernel
theorem lc_317 : jw_cd cd_law 317 = some (.aload_n 0) := by decide +kernel
theorem lc_318 : jw_cd cd_law 318 = some (.iload 4) := by decide +kernel
theorem lc_320 : jw_cd cd_law 320 = some (.iconst 1) := by decide +kernel
theorem lc_321 : jw_cd cd_law 321 = some (.iadd) := by decide +kernel
theorem lc_322 : jw_cd cd_law 322 = some (.iaload) := by decide +kernel
theorem lc_323 : jw_cd cd_law 323 = some (.invokevirtual 60) := by decide +kernel
theorem lc_326 : jw_cd cd_law 326 = some (.aload_n 2) := by decide +kernel
theorem lc_327 : jw_cd cd_law 327 = some (.aload_n 0) := by decide +kernel
theorem lc_328 : jw_cd cd_law 328 = some (.iload 4) := by decide +kernel
theorem lc_330 : jw_cd cd_law 330 = some (.iconst 1) := by decide +kernel
theorem lc_331 : jw_cd cd_law 331 = some (.iadd) := by decide +kernel
theorem lc_332 : jw_cd cd_law 332 = some (.iaload) := by decide +kernel
theorem lc_333 : jw_cd cd_law 333 = some (.invokevirtual 63) := by decide +kernel
theorem lc_336 : jw_cd cd_law 336 = some (.if_icmp .eq 5) := by decide +kernel
theorem lc_339 : jw_cd cd_law 339 = some (.iconst 0) := by decide +kernel
theorem lc_340 : jw_cd cd_law 340 = some (.ireturn) := by decide +kernel
theorem lc_341 : jw_cd cd_law 341 = some (.iinc 4 2) := by decide +kernel
theorem lc_344 : jw_cd cd_law 344 = some (.goto (-321)) := by decide +kernel
theorem lc_347 : jw_cd cd_law 347 = some (.iconst 1) := by decide +kernel
theorem lc_348 : jw_cd cd_law 348 = some (.ireturn) := by decide +kernel
/-! ===== the law's frame, step by step ===== -/
def jw_V (L : Nat) (xs : Nat → Int32) (F : jx_F) : Prop := ∃ f, jw_U L xs f F
section JWV
variable {L : Nat} {xs : Nat → Int32} {F2 : jx_F} {pc : Nat} {lo : jx_L} {st : List Value} {h : jx_H} {i : Instr}
theorem jv_1 (hi : jw_cd cd_law pc = some i) (hx : jx_xcall jw_xs i st = none) (hdo : jx_do (jw_TT L xs) (jw_cd cd_law) 22 pc (some .boolean, false) i lo st h = some (.inl F2)) (k : jw_V L xs F2) : jw_V L xs (pc, lo, st, h) := by
  obtain ⟨f, k⟩ := k
  refine ⟨f + 1, ?_⟩
  unfold jw_U
  rw [jx_u_succ]
  unfold jx_u1
  dsimp only
  rw [hi]
  dsimp only
  rw [hx]
  dsimp only
  rw [hdo]
  exact k
theorem jv_c (hi : jw_cd cd_law pc = some i) (hx : jx_xcall jw_xs i st = none) {m2 : Nat} {as r : List Value} (hdo : jx_do (jw_TT L xs) (jw_cd cd_law) 22 pc (some .boolean, false) i lo st h = some (.inr (.inl (m2, as, r)))) {h2 : jx_H} {v : Option Value} (hs : jw_su L xs m2 as h (h2, .inl v)) (k : jw_V L xs (pc + 3, lo, v.toList ++ r, h2)) : jw_V L xs (pc, lo, st, h) := by
  obtain ⟨f, k⟩ := k
  refine ⟨f + 1, ?_⟩
  unfold jw_U
  rw [jx_u_succ]
  unfold jx_u1
  dsimp only
  rw [hi]
  dsimp only
  rw [hx]
  dsimp only
  rw [hdo]
  exact Or.inl ⟨h2, v, hs, k⟩
theorem jv_x (hi : jw_cd cd_law pc = some i) {m2 : Nat} {as r : List Value} (hx : jx_xcall jw_xs i st = some (m2, as, r)) {h2 : jx_H} {v : Option Value} (hs : jw_su L xs m2 as h (h2, .inl v)) (k : jw_V L xs (pc + 3, lo, v.toList ++ r, h2)) : jw_V L xs (pc, lo, st, h) := by
  obtain ⟨f, k⟩ := k
  refine ⟨f + 1, ?_⟩
  unfold jw_U
  rw [jx_u_succ]
  unfold jx_u1
  dsimp only
  rw [hi]
  dsimp only
  rw [hx]
  exact ⟨h2, v, hs, k⟩
theorem jv_r (hi : jw_cd cd_law pc = some i) (hx : jx_xcall jw_xs i st = none) {v : Option Value} (hdo : jx_do (jw_TT L xs) (jw_cd cd_law) 22 pc (some .boolean, false) i lo st h = some (.inr (.inr (.inl v)))) (k : jw_Po L xs h v) : jw_V L xs (pc, lo, st, h) := by
  refine ⟨1, ?_⟩
  unfold jw_U
  rw [jx_u_succ]
  unfold jx_u1
  dsimp only
  rw [hi]
  dsimp only
  rw [hx]
  dsimp only
  rw [hdo]
  exact k
/-- the script -/
theorem jw_arrL (h : jx_H) : jx_arr (jw_TT L xs) h (jx_big + 54) = some (0, L, fun i => .int (xs i)) := rfl
abbrev jw_lo (m o : Nat) (i : Int32) (k b : Option Value) : jx_L := [some (.ref (jx_big + 54)), some (.ref 0), some (.ref m), some (.ref o), some (.int i), k, b]
theorem jw_ial {j : Int32} {r : List Value} {h : jx_H} {lo : jx_L} {pc : Nat} (hj : jx_in j L = true) : jx_do (jw_TT L xs) (jw_cd cd_law) 22 pc (some .boolean, false) .iaload lo (.int j :: .ref (jx_big + 54) :: r) h = some (.inl (pc + 1, lo, .int (xs j.toNatClampNeg) :: r, h)) := by
  simp only [jx_do]
  unfold jx_ald
  dsimp only
  rw [jw_arrL]
  dsimp only
  rw [show jx_ty (jw_TT L xs) 0 = some .int from rfl]
  dsimp only
  rw [hj]
  rfl
theorem jw_i32 {n : Nat} (h : n < 2147483648) : (Int32.ofNat n).toInt = n := Int32.toInt_ofNat_of_lt h
theorem jw_gt {n : Nat} (hL : L ≤ 1024) (hn : n ≤ 2048) : jx_hold .gt (Int32.ofNat n) (Int32.ofNat L - 2) = decide (L < n + 2) := by
  show decide (Int32.ofNat L - 2 < Int32.ofNat n) = decide (L < n + 2)
  have e1 : (Int32.ofNat L - 2).toInt = (L : Int) - 2 := by
    rw [Int32.toInt_sub, jw_i32 (by omega)]
    show Int.bmod ((L : Int) - 2) (2 ^ 32) = _
    rw [Int.bmod_def]
    omega
  rw [decide_eq_decide, Int32.lt_iff_toInt_lt, e1, jw_i32 (by omega)]
  omega
theorem jw_inL {j : Nat} (hL : L ≤ 1024) (hj : j < L) : jx_in (Int32.ofNat j) L = true ∧ (Int32.ofNat j).toNatClampNeg = j := by
  have e1 : (Int32.ofNat j).toInt = j := jw_i32 (by omega)
  have e2 : (Int32.ofNat j).toNatClampNeg = j := by
    show (Int32.ofNat j).toInt.toNat = j
    rw [e1]
    rfl
  refine ⟨?_, e2⟩
  unfold jx_in
  rw [e2, Bool.and_eq_true, Bool.not_eq_true', decide_eq_false_iff_not, decide_eq_true_eq, Int32.lt_iff_toInt_lt, e1]
  exact ⟨by show ¬ (j : Int) < 0; omega, hj⟩
/-- the loop's head, behind its last call -/
theorem jv_out {n m o : Nat} {k b : Option Value} {h : jx_H} (hL : L ≤ 1024) (hn : n ≤ 2048) (he : L < n + 2) (hp : h.length ≤ 601024 ∧ jx_vol (jw_TT L xs) h ≤ 7293034) : jw_V L xs (23, jw_lo m o (Int32.ofNat n) k b, [], h) := by
  refine jv_1 lc_23 rfl rfl ?_
  refine jv_1 lc_25 rfl rfl ?_
  refine jv_1 lc_26 (F2 := (27, jw_lo m o (Int32.ofNat n) k b, [.int (Int32.ofNat L), .int (Int32.ofNat n)], h)) rfl rfl ?_
  refine jv_1 lc_27 rfl rfl ?_
  refine jv_1 lc_28 rfl rfl ?_
  refine jv_1 lc_29 (F2 := (347, jw_lo m o (Int32.ofNat n) k b, [], h)) rfl ?_ ?_
  · show jx_br (jx_hold .gt (Int32.ofNat n) (Int32.ofNat L - 2)) 29 318 _ _ _ = _
    rw [jw_gt hL hn, decide_eq_true he]
    rfl
  refine jv_1 lc_347 rfl rfl ?_
  exact jv_r lc_348 rfl rfl ⟨rfl, hp⟩
end JWV
