/-! ===== the model's small methods (printed by program: gen14.py, mx.py) ===== -/
theorem jm_208 : jw_M 208 = some (34, 7, (some .int, false), jw_cd cd_208, fun _ _ => none) := rfl
theorem jm_211 : jw_M 211 = some (34, 2, (some .int, false), jw_cd cd_211, fun _ _ => none) := rfl
theorem jm_212 : jw_M 212 = some (34, 1, (none, false), jw_cd cd_212, fun _ _ => none) := rfl
theorem jm_213 : jw_M 213 = some (34, 2, (none, false), jw_cd cd_213, fun _ _ => none) := rfl
theorem jm_214 : jw_M 214 = some (34, 5, (some .int, false), jw_cd cd_214, fun _ _ => none) := rfl
theorem jm_215 : jw_M 215 = some (34, 1, (some .int, false), jw_cd cd_215, fun _ _ => none) := rfl
theorem jm_216 : jw_M 216 = some (34, 2, (none, false), jw_cd cd_216, fun _ _ => none) := rfl
theorem jm_217 : jw_M 217 = some (34, 3, (none, false), jw_cd cd_217, fun _ _ => none) := rfl
theorem jm_218 : jw_M 218 = some (34, 2, (some .boolean, false), jw_cd cd_218, fun _ _ => none) := rfl
theorem jm_219 : jw_M 219 = some (34, 1, (some .boolean, false), jw_cd cd_219, fun _ _ => none) := rfl
theorem jm_220 : jw_M 220 = some (34, 4, (some .long, false), jw_cd cd_220, fun _ _ => none) := rfl
theorem jm_221 : jw_M 221 = some (34, 2, (some .boolean, false), jw_cd cd_221, fun _ _ => none) := rfl
theorem jm_222 : jw_M 222 = some (34, 3, (some .int, false), jw_cd cd_222, fun _ _ => none) := rfl
theorem jm_223 : jw_M 223 = some (34, 1, (some .boolean, false), jw_cd cd_223, fun _ _ => none) := rfl
theorem jm_224 : jw_M 224 = some (34, 1, (some .boolean, false), jw_cd cd_224, fun _ _ => none) := rfl
theorem jm_225 : jw_M 225 = some (34, 3, (some .boolean, false), jw_cd cd_225, fun _ _ => none) := rfl
theorem jm_226 : jw_M 226 = some (34, 2, (some .boolean, false), jw_cd cd_226, fun _ _ => none) := rfl
theorem jm_227 : jw_M 227 = some (34, 2, (some .boolean, false), jw_cd cd_227, fun _ _ => none) := rfl
theorem jm_228 : jw_M 228 = some (34, 5, (none, false), jw_cd cd_228, fun _ _ => none) := rfl
theorem jm_229 : jw_M 229 = some (34, 8, (some .int, false), jw_cd cd_229, fun _ _ => none) := rfl
theorem jm_230 : jw_M 230 = some (34, 10, (some .int, false), jw_cd cd_230, fun _ _ => none) := rfl
theorem jm_231 : jw_M 231 = some (34, 5, (some .int, false), jw_cd cd_231, fun _ _ => none) := rfl
theorem jm_232 : jw_M 232 = some (34, 3, (some .int, false), jw_cd cd_232, fun _ _ => none) := rfl
theorem jm_233 : jw_M 233 = some (34, 2, (some .boolean, false), jw_cd cd_233, fun _ _ => none) := rfl
theorem jm_234 : jw_M 234 = some (34, 6, (none, false), jw_cd cd_234, fun _ _ => none) := rfl
theorem jm_235 : jw_M 235 = some (34, 4, (some .int, false), jw_cd cd_235, fun _ _ => none) := rfl
theorem jm_236 : jw_M 236 = some (34, 9, (some .long, false), jw_cd cd_236, fun _ _ => none) := rfl
theorem jm_237 : jw_M 237 = some (34, 6, (none, false), jw_cd cd_237, fun _ _ => none) := rfl
theorem jm_238 : jw_M 238 = some (34, 2, (some .boolean, false), jw_cd cd_238, fun _ _ => none) := rfl
theorem jm_239 : jw_M 239 = some (34, 2, (none, false), jw_cd cd_239, fun _ _ => none) := rfl
theorem jm_240 : jw_M 240 = some (34, 4, (none, false), jw_cd cd_240, fun _ _ => none) := rfl
theorem jm_241 : jw_M 241 = some (34, 3, (none, false), jw_cd cd_241, fun _ _ => none) := rfl
theorem jm_242 : jw_M 242 = some (34, 2, (none, false), jw_cd cd_242, fun _ _ => none) := rfl
theorem jm_243 : jw_M 243 = some (34, 6, (none, false), jw_cd cd_243, fun _ _ => none) := rfl
theorem jm_244 : jw_M 244 = some (34, 1, (none, false), jw_cd cd_244, fun _ _ => none) := rfl
theorem jm_245 : jw_M 245 = some (34, 8, (some .int, false), jw_cd cd_245, fun _ _ => none) := rfl
theorem jm_246 : jw_M 246 = some (34, 6, (some .int, false), jw_cd cd_246, fun _ _ => none) := rfl
theorem jm_247 : jw_M 247 = some (34, 2, (some .boolean, false), jw_cd cd_247, fun _ _ => none) := rfl
theorem jm_248 : jw_M 248 = some (34, 4, (some .int, false), jw_cd cd_248, fun _ _ => none) := rfl
theorem jm_249 : jw_M 249 = some (34, 3, (some .int, false), jw_cd cd_249, fun _ _ => none) := rfl
theorem jm_250 : jw_M 250 = some (34, 3, (some .int, false), jw_cd cd_250, fun _ _ => none) := rfl
theorem jm_251 : jw_M 251 = some (34, 6, (some .int, false), jw_cd cd_251, fun _ _ => none) := rfl
theorem jm_252 : jw_M 252 = some (34, 5, (some .int, false), jw_cd cd_252, fun _ _ => none) := rfl
theorem jm_253 : jw_M 253 = some (34, 6, (some .int, false), jw_cd cd_253, fun _ _ => none) := rfl
theorem jm_254 : jw_M 254 = some (34, 4, (some .int, false), jw_cd cd_254, fun _ _ => none) := rfl
theorem jm_255 : jw_M 255 = some (34, 8, (some .int, false), jw_cd cd_255, fun _ _ => none) := rfl
theorem jm_256 : jw_M 256 = some (34, 5, (some .int, false), jw_cd cd_256, fun _ _ => none) := rfl
theorem jm_257 : jw_M 257 = some (34, 8, (some .int, false), jw_cd cd_257, fun _ _ => none) := rfl
theorem jm_258 : jw_M 258 = some (34, 3, (some .boolean, false), jw_cd cd_258, fun _ _ => none) := rfl
theorem jm_259 : jw_M 259 = some (34, 6, (some .int, false), jw_cd cd_259, fun _ _ => none) := rfl
theorem jm_260 : jw_M 260 = some (34, 9, (some .int, false), jw_cd cd_260, fun _ _ => none) := rfl
theorem jm_261 : jw_M 261 = some (34, 3, (none, false), jw_cd cd_261, fun _ _ => none) := rfl
theorem jm_262 : jw_M 262 = some (34, 6, (none, false), jw_cd cd_262, fun _ _ => none) := rfl
theorem jm_263 : jw_M 263 = some (34, 2, (some .boolean, false), jw_cd cd_263, fun _ _ => none) := rfl
theorem jm_264 : jw_M 264 = some (34, 4, (some .int, false), jw_cd cd_264, fun _ _ => none) := rfl
theorem jm_265 : jw_M 265 = some (34, 5, (none, false), jw_cd cd_265, fun _ _ => none) := rfl
theorem jm_266 : jw_M 266 = some (34, 7, (none, false), jw_cd cd_266, fun _ _ => none) := rfl
theorem jm_267 : jw_M 267 = some (34, 5, (some .int, false), jw_cd cd_267, fun _ _ => none) := rfl
theorem jm_268 : jw_M 268 = some (34, 9, (none, false), jw_cd cd_268, fun _ _ => none) := rfl
theorem jm_269 : jw_M 269 = some (34, 11, (none, false), jw_cd cd_269, fun _ _ => none) := rfl
theorem jm_270 : jw_M 270 = some (34, 12, (some .boolean, false), jw_cd cd_270, fun _ _ => none) := rfl
theorem jm_271 : jw_M 271 = some (34, 5, (some .int, false), jw_cd cd_271, fun _ _ => none) := rfl
theorem jm_272 : jw_M 272 = some (34, 10, (some .boolean, false), jw_cd cd_272, fun _ _ => none) := rfl
theorem jm_273 : jw_M 273 = some (34, 1, (some .int, false), jw_cd cd_273, fun _ _ => none) := rfl
theorem jm_274 : jw_M 274 = some (34, 2, (some .int, false), jw_cd cd_274, fun _ _ => none) := rfl
theorem jm_275 : jw_M 275 = some (34, 5, (none, false), jw_cd cd_275, fun _ _ => none) := rfl
theorem jm_276 : jw_M 276 = some (34, 2, (none, false), jw_cd cd_276, fun _ _ => none) := rfl
theorem jm_277 : jw_M 277 = some (34, 2, (none, false), jw_cd cd_277, fun _ _ => none) := rfl
theorem jm_278 : jw_M 278 = some (34, 6, (none, false), jw_cd cd_278, fun _ _ => none) := rfl
theorem jm_279 : jw_M 279 = some (34, 4, (none, false), jw_cd cd_279, fun _ _ => none) := rfl
theorem jm_280 : jw_M 280 = some (34, 2, (some .int, false), jw_cd cd_280, fun _ _ => none) := rfl
theorem jm_281 : jw_M 281 = some (34, 2, (some .int, false), jw_cd cd_281, fun _ _ => none) := rfl
def mHere (σ : mS) : Int := if σ 28 0 < σ 2 0 then σ 1 (σ 28 0) else -1
/-- the text and the place in it are as they should be -/
def mT (σ : mS) : Prop := 0 ≤ σ 28 0 ∧ σ 28 0 ≤ σ 2 0 ∧ 0 ≤ σ 2 0 ∧ σ 2 0 ≤ 160 ∧ ∀ i, 0 ≤ i → i < σ 2 0 → 32 ≤ σ 1 i ∧ σ 1 i ≤ 126
theorem mHere_r {σ : mS} (ht : mT σ) : -1 ≤ mHere σ ∧ mHere σ ≤ 126 := by
  obtain ⟨h1, h2, h3, h4, h5⟩ := ht
  unfold mHere
  split
  · have := h5 (σ 28 0) h1 (by omega)
    omega
  · omega
def mWrong (σ : mS) (p : Int) : mS := su σ 29 0 (if σ 29 0 = 0 then -1 - p else σ 29 0)
def mTake (σ : mS) : mS := su σ 28 0 (σ 28 0 + 1)
theorem jn_here {β : Bool} {d : Nat} {h : jx_H} {σ : mS} (hl : 49 ≤ h.length) (ht : mT σ) : jx_r (jz β) jw_M (d) 215 (0, [some (.ref 15)], [], ml_mk h σ) (ml_mk h (σ), .inl (some (.int (Int32.ofInt (mHere σ))))) := by
  obtain ⟨t1, t2, t3, t4, t5⟩ := ht
  refine jr_1 jm_215 (show jw_cd cd_215 0 = some (.aload_n 0) by decide +kernel) rfl ?_
  refine jr_1 jm_215 (show jw_cd cd_215 1 = some (.getfield 145) by decide +kernel) (mg_i hl (e := σ 28 0) rfl (show jw_fld 34 145 16 = some 28 by decide +kernel) (by decide) (by decide)) ?_
  refine jr_1 jm_215 (show jw_cd cd_215 4 = some (.aload_n 0) by decide +kernel) rfl ?_
  refine jr_1 jm_215 (show jw_cd cd_215 5 = some (.getfield 142) by decide +kernel) (mg_i hl (e := σ 2 0) rfl (show jw_fld 34 142 16 = some 2 by decide +kernel) (by decide) (by decide)) ?_
  by_cases hc : σ 28 0 < σ 2 0
  · rw [show mHere σ = σ 1 (σ 28 0) from if_pos hc]
    refine jr_1 jm_215 (show jw_cd cd_215 8 = some (.if_icmp .ge 15) by decide +kernel) (mb_f (q := .ge) (a := σ 28 0) (b := σ 2 0) (by show ¬ (σ 2 0 ≤ σ 28 0); omega) ⟨by omega, by omega⟩ ⟨by omega, by omega⟩ (by decide)) ?_
    refine jr_1 jm_215 (show jw_cd cd_215 11 = some (.aload_n 0) by decide +kernel) rfl ?_
    refine jr_1 jm_215 (show jw_cd cd_215 12 = some (.getfield 7) by decide +kernel) (mg_a hl (a := 16) (show jw_fld 34 7 16 = some 1 by decide +kernel) (by decide) (by decide)) ?_
    refine jr_1 jm_215 (show jw_cd cd_215 15 = some (.aload_n 0) by decide +kernel) rfl ?_
    refine jr_1 jm_215 (show jw_cd cd_215 16 = some (.getfield 145) by decide +kernel) (mg_i hl (e := σ 28 0) rfl (show jw_fld 34 145 16 = some 28 by decide +kernel) (by decide) (by decide)) ?_
    refine jr_1 jm_215 (show jw_cd cd_215 19 = some (.iaload) by decide +kernel) (ma_i hl (i := σ 28 0) (e := σ 1 (σ 28 0)) 1 (by omega) (by show _ < ((160 : Nat) : Int); omega) rfl (by decide) (by decide) (by decide)) ?_
    refine jr_1 jm_215 (show jw_cd cd_215 20 = some (.goto 4) by decide +kernel) (ju_go (t := 24) (by decide)) ?_
    exact jr_v jm_215 (show jw_cd cd_215 24 = some (.ireturn) by decide +kernel) rfl
  · rw [show mHere σ = -1 from if_neg hc]
    refine jr_1 jm_215 (show jw_cd cd_215 8 = some (.if_icmp .ge 15) by decide +kernel) (mb_t (q := .ge) (a := σ 28 0) (b := σ 2 0) (t := 23) (by show σ 2 0 ≤ σ 28 0; omega) ⟨by omega, by omega⟩ ⟨by omega, by omega⟩ (by decide) (by decide)) ?_
    refine jr_1 jm_215 (show jw_cd cd_215 23 = some (.iconst (-1)) by decide +kernel) rfl ?_
    exact jr_v jm_215 (show jw_cd cd_215 24 = some (.ireturn) by decide +kernel) rfl
theorem jn_wrong {β : Bool} {d : Nat} {h : jx_H} {σ : mS} (hl : 49 ≤ h.length) {p : Int} (he : mr (σ 29 0)) : jx_r (jz β) jw_M (d) 216 (0, [some (.ref 15), some (.int (Int32.ofInt (p)))], [], ml_mk h σ) (ml_mk h (mWrong σ p), .inl none) := by
  obtain ⟨e1, e2⟩ := he
  refine jr_1 jm_216 (show jw_cd cd_216 0 = some (.aload_n 0) by decide +kernel) rfl ?_
  refine jr_1 jm_216 (show jw_cd cd_216 1 = some (.aload_n 0) by decide +kernel) rfl ?_
  refine jr_1 jm_216 (show jw_cd cd_216 2 = some (.getfield 148) by decide +kernel) (mg_i hl (e := σ 29 0) rfl (show jw_fld 34 148 16 = some 29 by decide +kernel) (by decide) (by decide)) ?_
  by_cases hc : σ 29 0 = 0
  · rw [show mWrong σ p = su σ 29 0 (-1 - p) from by unfold mWrong; rw [if_pos hc]]
    refine jr_1 jm_216 (show jw_cd cd_216 5 = some (.ifCond .ne 9) by decide +kernel) (mz_f (q := .ne) (a := σ 29 0) (by show ¬ (¬ (σ 29 0 = 0)); omega) ⟨by omega, by omega⟩ (by decide)) ?_
    refine jr_1 jm_216 (show jw_cd cd_216 8 = some (.iconst (-1)) by decide +kernel) rfl ?_
    refine jr_1 jm_216 (show jw_cd cd_216 9 = some (.iload_n 1) by decide +kernel) rfl ?_
    refine jr_1 jm_216 (show jw_cd cd_216 10 = some (.isub) by decide +kernel) (mt_sub (c := -1 - p) rfl) ?_
    refine jr_1 jm_216 (show jw_cd cd_216 11 = some (.goto 7) by decide +kernel) (ju_go (t := 18) (by decide)) ?_
    refine jr_1 jm_216 (show jw_cd cd_216 18 = some (.putfield 148) by decide +kernel) (mp_i hl (x := -1 - p) (show jw_fld 34 148 16 = some 29 by decide +kernel) (by decide) (by decide) (show jw_ft 16 29 = some .int by decide +kernel) (show jw_fm 34 16 29 = some false by decide +kernel)) ?_
    exact jr_v jm_216 (show jw_cd cd_216 21 = some (.return_) by decide +kernel) rfl
  · rw [show mWrong σ p = su σ 29 0 (σ 29 0) from by unfold mWrong; rw [if_neg hc]]
    refine jr_1 jm_216 (show jw_cd cd_216 5 = some (.ifCond .ne 9) by decide +kernel) (mz_t (q := .ne) (a := σ 29 0) (t := 14) (by show ¬ (σ 29 0 = 0); omega) ⟨by omega, by omega⟩ (by decide) (by decide)) ?_
    refine jr_1 jm_216 (show jw_cd cd_216 14 = some (.aload_n 0) by decide +kernel) rfl ?_
    refine jr_1 jm_216 (show jw_cd cd_216 15 = some (.getfield 148) by decide +kernel) (mg_i hl (e := σ 29 0) rfl (show jw_fld 34 148 16 = some 29 by decide +kernel) (by decide) (by decide)) ?_
    refine jr_1 jm_216 (show jw_cd cd_216 18 = some (.putfield 148) by decide +kernel) (mp_i hl (x := σ 29 0) (show jw_fld 34 148 16 = some 29 by decide +kernel) (by decide) (by decide) (show jw_ft 16 29 = some .int by decide +kernel) (show jw_fm 34 16 29 = some false by decide +kernel)) ?_
    exact jr_v jm_216 (show jw_cd cd_216 21 = some (.return_) by decide +kernel) rfl
def misL (c : Int) : Int := if 97 ≤ c ∧ c ≤ 122 then 1 else 0
theorem jn_isL {β : Bool} {d : Nat} {h : jx_H} {σ : mS} (hl : 49 ≤ h.length) {c : Int} (he : mr c) : jx_r (jz β) jw_M (d) 219 (0, [some (.int (Int32.ofInt (c)))], [], ml_mk h σ) (ml_mk h (σ), .inl (some (.int (Int32.ofInt (misL c))))) := by
  obtain ⟨e1, e2⟩ := he
  refine jr_1 jm_219 (show jw_cd cd_219 0 = some (.iload_n 0) by decide +kernel) rfl ?_
  refine jr_1 jm_219 (show jw_cd cd_219 1 = some (.bipush 97) by decide +kernel) (mt_bi (by decide)) ?_
  by_cases h1 : c < 97
  · rw [show misL c = 0 from if_neg (by omega)]
    refine jr_1 jm_219 (show jw_cd cd_219 3 = some (.if_icmp .lt 13) by decide +kernel) (mb_t (q := .lt) (a := c) (b := 97) (t := 16) (by show c < 97; omega) ⟨by omega, by omega⟩ ⟨by omega, by omega⟩ (by decide) (by decide)) ?_
    refine jr_1 jm_219 (show jw_cd cd_219 16 = some (.iconst 0) by decide +kernel) rfl ?_
    exact jr_v jm_219 (show jw_cd cd_219 17 = some (.ireturn) by decide +kernel) rfl
  by_cases h2 : 122 < c
  · rw [show misL c = 0 from if_neg (by omega)]
    refine jr_1 jm_219 (show jw_cd cd_219 3 = some (.if_icmp .lt 13) by decide +kernel) (mb_f (q := .lt) (a := c) (b := 97) (by show ¬ (c < 97); omega) ⟨by omega, by omega⟩ ⟨by omega, by omega⟩ (by decide)) ?_
    refine jr_1 jm_219 (show jw_cd cd_219 6 = some (.iload_n 0) by decide +kernel) rfl ?_
    refine jr_1 jm_219 (show jw_cd cd_219 7 = some (.bipush 122) by decide +kernel) (mt_bi (by decide)) ?_
    refine jr_1 jm_219 (show jw_cd cd_219 9 = some (.if_icmp .gt 7) by decide +kernel) (mb_t (q := .gt) (a := c) (b := 122) (t := 16) (by show 122 < c; omega) ⟨by omega, by omega⟩ ⟨by omega, by omega⟩ (by decide) (by decide)) ?_
    refine jr_1 jm_219 (show jw_cd cd_219 16 = some (.iconst 0) by decide +kernel) rfl ?_
    exact jr_v jm_219 (show jw_cd cd_219 17 = some (.ireturn) by decide +kernel) rfl
  · rw [show misL c = 1 from if_pos (by omega)]
    refine jr_1 jm_219 (show jw_cd cd_219 3 = some (.if_icmp .lt 13) by decide +kernel) (mb_f (q := .lt) (a := c) (b := 97) (by show ¬ (c < 97); omega) ⟨by omega, by omega⟩ ⟨by omega, by omega⟩ (by decide)) ?_
    refine jr_1 jm_219 (show jw_cd cd_219 6 = some (.iload_n 0) by decide +kernel) rfl ?_
    refine jr_1 jm_219 (show jw_cd cd_219 7 = some (.bipush 122) by decide +kernel) (mt_bi (by decide)) ?_
    refine jr_1 jm_219 (show jw_cd cd_219 9 = some (.if_icmp .gt 7) by decide +kernel) (mb_f (q := .gt) (a := c) (b := 122) (by show ¬ (122 < c); omega) ⟨by omega, by omega⟩ ⟨by omega, by omega⟩ (by decide)) ?_
    refine jr_1 jm_219 (show jw_cd cd_219 12 = some (.iconst 1) by decide +kernel) rfl ?_
    refine jr_1 jm_219 (show jw_cd cd_219 13 = some (.goto 4) by decide +kernel) (ju_go (t := 17) (by decide)) ?_
    exact jr_v jm_219 (show jw_cd cd_219 17 = some (.ireturn) by decide +kernel) rfl
def misD (c : Int) : Int := if 48 ≤ c ∧ c ≤ 57 then 1 else 0
theorem jn_isD {β : Bool} {d : Nat} {h : jx_H} {σ : mS} (hl : 49 ≤ h.length) {c : Int} (he : mr c) : jx_r (jz β) jw_M (d) 224 (0, [some (.int (Int32.ofInt (c)))], [], ml_mk h σ) (ml_mk h (σ), .inl (some (.int (Int32.ofInt (misD c))))) := by
  obtain ⟨e1, e2⟩ := he
  refine jr_1 jm_224 (show jw_cd cd_224 0 = some (.iload_n 0) by decide +kernel) rfl ?_
  refine jr_1 jm_224 (show jw_cd cd_224 1 = some (.bipush 48) by decide +kernel) (mt_bi (by decide)) ?_
  by_cases h1 : c < 48
  · rw [show misD c = 0 from if_neg (by omega)]
    refine jr_1 jm_224 (show jw_cd cd_224 3 = some (.if_icmp .lt 13) by decide +kernel) (mb_t (q := .lt) (a := c) (b := 48) (t := 16) (by show c < 48; omega) ⟨by omega, by omega⟩ ⟨by omega, by omega⟩ (by decide) (by decide)) ?_
    refine jr_1 jm_224 (show jw_cd cd_224 16 = some (.iconst 0) by decide +kernel) rfl ?_
    exact jr_v jm_224 (show jw_cd cd_224 17 = some (.ireturn) by decide +kernel) rfl
  by_cases h2 : 57 < c
  · rw [show misD c = 0 from if_neg (by omega)]
    refine jr_1 jm_224 (show jw_cd cd_224 3 = some (.if_icmp .lt 13) by decide +kernel) (mb_f (q := .lt) (a := c) (b := 48) (by show ¬ (c < 48); omega) ⟨by omega, by omega⟩ ⟨by omega, by omega⟩ (by decide)) ?_
    refine jr_1 jm_224 (show jw_cd cd_224 6 = some (.iload_n 0) by decide +kernel) rfl ?_
    refine jr_1 jm_224 (show jw_cd cd_224 7 = some (.bipush 57) by decide +kernel) (mt_bi (by decide)) ?_
    refine jr_1 jm_224 (show jw_cd cd_224 9 = some (.if_icmp .gt 7) by decide +kernel) (mb_t (q := .gt) (a := c) (b := 57) (t := 16) (by show 57 < c; omega) ⟨by omega, by omega⟩ ⟨by omega, by omega⟩ (by decide) (by decide)) ?_
    refine jr_1 jm_224 (show jw_cd cd_224 16 = some (.iconst 0) by decide +kernel) rfl ?_
    exact jr_v jm_224 (show jw_cd cd_224 17 = some (.ireturn) by decide +kernel) rfl
  · rw [show misD c = 1 from if_pos (by omega)]
    refine jr_1 jm_224 (show jw_cd cd_224 3 = some (.if_icmp .lt 13) by decide +kernel) (mb_f (q := .lt) (a := c) (b := 48) (by show ¬ (c < 48); omega) ⟨by omega, by omega⟩ ⟨by omega, by omega⟩ (by decide)) ?_
    refine jr_1 jm_224 (show jw_cd cd_224 6 = some (.iload_n 0) by decide +kernel) rfl ?_
    refine jr_1 jm_224 (show jw_cd cd_224 7 = some (.bipush 57) by decide +kernel) (mt_bi (by decide)) ?_
    refine jr_1 jm_224 (show jw_cd cd_224 9 = some (.if_icmp .gt 7) by decide +kernel) (mb_f (q := .gt) (a := c) (b := 57) (by show ¬ (57 < c); omega) ⟨by omega, by omega⟩ ⟨by omega, by omega⟩ (by decide)) ?_
    refine jr_1 jm_224 (show jw_cd cd_224 12 = some (.iconst 1) by decide +kernel) rfl ?_
    refine jr_1 jm_224 (show jw_cd cd_224 13 = some (.goto 4) by decide +kernel) (ju_go (t := 17) (by decide)) ?_
    exact jr_v jm_224 (show jw_cd cd_224 17 = some (.ireturn) by decide +kernel) rfl
theorem jn_must_t {β : Bool} {d : Nat} {h : jx_H} {σ : mS} (hl : 49 ≤ h.length) {c : Int} (ht : mT σ) (hcr : mr c) (hc : mHere σ = c) : jx_r (jz β) jw_M (d + 1) 221 (0, [some (.ref 15), some (.int (Int32.ofInt (c)))], [], ml_mk h σ) (ml_mk h (mTake σ), .inl (some (.int (Int32.ofInt (1))))) := by
  obtain ⟨c1, c2⟩ := hcr
  have hr := mHere_r ht
  refine jr_1 jm_221 (show jw_cd cd_221 0 = some (.aload_n 0) by decide +kernel) rfl ?_
  refine jr_c jm_221 (show jw_cd cd_221 1 = some (.invokevirtual 151) by decide +kernel) (mc_v hl (n := 0) (m2 := 215) (bs := []) (r := []) (show jw_find jw_cvT 34 151 = some (0, [(16, 215)]) by decide +kernel) (by decide) rfl rfl rfl) jm_215 ⟨Nat.le_of_ble_eq_true rfl, by decide⟩ (jn_here hl ht) ?_
  refine jr_1 jm_221 (show jw_cd cd_221 4 = some (.iload_n 1) by decide +kernel) rfl ?_
  refine jr_1 jm_221 (show jw_cd cd_221 5 = some (.if_icmp .eq 13) by decide +kernel) (mb_t (q := .eq) (a := mHere σ) (b := c) (t := 18) hc ⟨by omega, by omega⟩ ⟨by omega, by omega⟩ (by decide) (by decide)) ?_
  refine jr_1 jm_221 (show jw_cd cd_221 18 = some (.aload_n 0) by decide +kernel) rfl ?_
  refine jr_1 jm_221 (show jw_cd cd_221 19 = some (.dup) by decide +kernel) rfl ?_
  refine jr_1 jm_221 (show jw_cd cd_221 20 = some (.getfield 145) by decide +kernel) (mg_i hl (e := σ 28 0) rfl (show jw_fld 34 145 16 = some 28 by decide +kernel) (by decide) (by decide)) ?_
  refine jr_1 jm_221 (show jw_cd cd_221 23 = some (.iconst 1) by decide +kernel) rfl ?_
  refine jr_1 jm_221 (show jw_cd cd_221 24 = some (.iadd) by decide +kernel) (mt_add (c := σ 28 0 + 1) rfl) ?_
  refine jr_1 jm_221 (show jw_cd cd_221 25 = some (.putfield 145) by decide +kernel) (mp_i hl (x := σ 28 0 + 1) (show jw_fld 34 145 16 = some 28 by decide +kernel) (by decide) (by decide) (show jw_ft 16 28 = some .int by decide +kernel) (show jw_fm 34 16 28 = some false by decide +kernel)) ?_
  refine jr_1 jm_221 (show jw_cd cd_221 28 = some (.iconst 1) by decide +kernel) rfl ?_
  exact jr_v jm_221 (show jw_cd cd_221 29 = some (.ireturn) by decide +kernel) rfl
theorem jn_must_f {β : Bool} {d : Nat} {h : jx_H} {σ : mS} (hl : 49 ≤ h.length) {c : Int} (ht : mT σ) (he : mr (σ 29 0)) (hcr : mr c) (hc : ¬ mHere σ = c) : jx_r (jz β) jw_M (d + 1) 221 (0, [some (.ref 15), some (.int (Int32.ofInt (c)))], [], ml_mk h σ) (ml_mk h (mWrong σ (σ 28 0)), .inl (some (.int (Int32.ofInt (0))))) := by
  obtain ⟨c1, c2⟩ := hcr
  have hr := mHere_r ht
  refine jr_1 jm_221 (show jw_cd cd_221 0 = some (.aload_n 0) by decide +kernel) rfl ?_
  refine jr_c jm_221 (show jw_cd cd_221 1 = some (.invokevirtual 151) by decide +kernel) (mc_v hl (n := 0) (m2 := 215) (bs := []) (r := []) (show jw_find jw_cvT 34 151 = some (0, [(16, 215)]) by decide +kernel) (by decide) rfl rfl rfl) jm_215 ⟨Nat.le_of_ble_eq_true rfl, by decide⟩ (jn_here hl ht) ?_
  refine jr_1 jm_221 (show jw_cd cd_221 4 = some (.iload_n 1) by decide +kernel) rfl ?_
  refine jr_1 jm_221 (show jw_cd cd_221 5 = some (.if_icmp .eq 13) by decide +kernel) (mb_f (q := .eq) (a := mHere σ) (b := c) hc ⟨by omega, by omega⟩ ⟨by omega, by omega⟩ (by decide)) ?_
  refine jr_1 jm_221 (show jw_cd cd_221 8 = some (.aload_n 0) by decide +kernel) rfl ?_
  refine jr_1 jm_221 (show jw_cd cd_221 9 = some (.aload_n 0) by decide +kernel) rfl ?_
  refine jr_1 jm_221 (show jw_cd cd_221 10 = some (.getfield 145) by decide +kernel) (mg_i hl (e := σ 28 0) rfl (show jw_fld 34 145 16 = some 28 by decide +kernel) (by decide) (by decide)) ?_
  refine jr_c jm_221 (show jw_cd cd_221 13 = some (.invokevirtual 155) by decide +kernel) (mc_v hl (n := 1) (m2 := 216) (bs := [.int (Int32.ofInt (σ 28 0))]) (r := []) (show jw_find jw_cvT 34 155 = some (1, [(16, 216)]) by decide +kernel) (by decide) rfl rfl rfl) jm_216 ⟨Nat.le_of_ble_eq_true rfl, by decide⟩ (jn_wrong hl he) ?_
  refine jr_1 jm_221 (show jw_cd cd_221 16 = some (.iconst 0) by decide +kernel) rfl ?_
  exact jr_v jm_221 (show jw_cd cd_221 17 = some (.ireturn) by decide +kernel) rfl
theorem jn_takes_t {β : Bool} {d : Nat} {h : jx_H} {σ : mS} (hl : 49 ≤ h.length) {c : Int} (ht : mT σ) (hcr : mr c) (hc : mHere σ = c) : jx_r (jz β) jw_M (d + 1) 226 (0, [some (.ref 15), some (.int (Int32.ofInt (c)))], [], ml_mk h σ) (ml_mk h (mTake σ), .inl (some (.int (Int32.ofInt (1))))) := by
  obtain ⟨c1, c2⟩ := hcr
  have hr := mHere_r ht
  refine jr_1 jm_226 (show jw_cd cd_226 0 = some (.aload_n 0) by decide +kernel) rfl ?_
  refine jr_c jm_226 (show jw_cd cd_226 1 = some (.invokevirtual 151) by decide +kernel) (mc_v hl (n := 0) (m2 := 215) (bs := []) (r := []) (show jw_find jw_cvT 34 151 = some (0, [(16, 215)]) by decide +kernel) (by decide) rfl rfl rfl) jm_215 ⟨Nat.le_of_ble_eq_true rfl, by decide⟩ (jn_here hl ht) ?_
  refine jr_1 jm_226 (show jw_cd cd_226 4 = some (.iload_n 1) by decide +kernel) rfl ?_
  refine jr_1 jm_226 (show jw_cd cd_226 5 = some (.if_icmp .eq 5) by decide +kernel) (mb_t (q := .eq) (a := mHere σ) (b := c) (t := 10) hc ⟨by omega, by omega⟩ ⟨by omega, by omega⟩ (by decide) (by decide)) ?_
  refine jr_1 jm_226 (show jw_cd cd_226 10 = some (.aload_n 0) by decide +kernel) rfl ?_
  refine jr_1 jm_226 (show jw_cd cd_226 11 = some (.dup) by decide +kernel) rfl ?_
  refine jr_1 jm_226 (show jw_cd cd_226 12 = some (.getfield 145) by decide +kernel) (mg_i hl (e := σ 28 0) rfl (show jw_fld 34 145 16 = some 28 by decide +kernel) (by decide) (by decide)) ?_
  refine jr_1 jm_226 (show jw_cd cd_226 15 = some (.iconst 1) by decide +kernel) rfl ?_
  refine jr_1 jm_226 (show jw_cd cd_226 16 = some (.iadd) by decide +kernel) (mt_add (c := σ 28 0 + 1) rfl) ?_
  refine jr_1 jm_226 (show jw_cd cd_226 17 = some (.putfield 145) by decide +kernel) (mp_i hl (x := σ 28 0 + 1) (show jw_fld 34 145 16 = some 28 by decide +kernel) (by decide) (by decide) (show jw_ft 16 28 = some .int by decide +kernel) (show jw_fm 34 16 28 = some false by decide +kernel)) ?_
  refine jr_1 jm_226 (show jw_cd cd_226 20 = some (.iconst 1) by decide +kernel) rfl ?_
  exact jr_v jm_226 (show jw_cd cd_226 21 = some (.ireturn) by decide +kernel) rfl
theorem jn_takes_f {β : Bool} {d : Nat} {h : jx_H} {σ : mS} (hl : 49 ≤ h.length) {c : Int} (ht : mT σ) (hcr : mr c) (hc : ¬ mHere σ = c) : jx_r (jz β) jw_M (d + 1) 226 (0, [some (.ref 15), some (.int (Int32.ofInt (c)))], [], ml_mk h σ) (ml_mk h (σ), .inl (some (.int (Int32.ofInt (0))))) := by
  obtain ⟨c1, c2⟩ := hcr
  have hr := mHere_r ht
  refine jr_1 jm_226 (show jw_cd cd_226 0 = some (.aload_n 0) by decide +kernel) rfl ?_
  refine jr_c jm_226 (show jw_cd cd_226 1 = some (.invokevirtual 151) by decide +kernel) (mc_v hl (n := 0) (m2 := 215) (bs := []) (r := []) (show jw_find jw_cvT 34 151 = some (0, [(16, 215)]) by decide +kernel) (by decide) rfl rfl rfl) jm_215 ⟨Nat.le_of_ble_eq_true rfl, by decide⟩ (jn_here hl ht) ?_
  refine jr_1 jm_226 (show jw_cd cd_226 4 = some (.iload_n 1) by decide +kernel) rfl ?_
  refine jr_1 jm_226 (show jw_cd cd_226 5 = some (.if_icmp .eq 5) by decide +kernel) (mb_f (q := .eq) (a := mHere σ) (b := c) hc ⟨by omega, by omega⟩ ⟨by omega, by omega⟩ (by decide)) ?_
  refine jr_1 jm_226 (show jw_cd cd_226 8 = some (.iconst 0) by decide +kernel) rfl ?_
  exact jr_v jm_226 (show jw_cd cd_226 9 = some (.ireturn) by decide +kernel) rfl
def mBegin (σ : mS) : mS := (su (su σ 28 (0) (0)) 29 (0) (0))
theorem jn_begin {β : Bool} {d : Nat} {h : jx_H} {σ : mS} (hl : 49 ≤ h.length)  : jx_r (jz β) jw_M (d) 212 (0, [some (.ref 15)], [], ml_mk h σ) (ml_mk h (mBegin σ), .inl none) := by
  refine jr_1 jm_212 (show jw_cd cd_212 0 = some (.aload_n 0) by decide +kernel) rfl ?_
  refine jr_1 jm_212 (show jw_cd cd_212 1 = some (.iconst 0) by decide +kernel) rfl ?_
  refine jr_1 jm_212 (show jw_cd cd_212 2 = some (.putfield 145) by decide +kernel) (mp_i hl (x := 0) (show jw_fld 34 145 16 = some 28 by decide +kernel) (by decide) (by decide) (show jw_ft 16 28 = some .int by decide +kernel) (show jw_fm 34 16 28 = some false by decide +kernel)) ?_
  refine jr_1 jm_212 (show jw_cd cd_212 5 = some (.aload_n 0) by decide +kernel) rfl ?_
  refine jr_1 jm_212 (show jw_cd cd_212 6 = some (.iconst 0) by decide +kernel) rfl ?_
  refine jr_1 jm_212 (show jw_cd cd_212 7 = some (.putfield 148) by decide +kernel) (mp_i hl (x := 0) (show jw_fld 34 148 16 = some 29 by decide +kernel) (by decide) (by decide) (show jw_ft 16 29 = some .int by decide +kernel) (show jw_fm 34 16 29 = some false by decide +kernel)) ?_
  exact jr_v jm_212 (show jw_cd cd_212 10 = some (.return_) by decide +kernel) rfl
def mEmpty (σ : mS) (z : Int) : mS := (su (su σ 11 (z) (0)) 12 (z) (0))
theorem jn_empty {β : Bool} {d : Nat} {h : jx_H} {σ : mS} (hl : 49 ≤ h.length) {z : Int} (hz : 0 ≤ z ∧ z < 5) : jx_r (jz β) jw_M (d) 213 (0, [some (.ref 15), some (.int (Int32.ofInt (z)))], [], ml_mk h σ) (ml_mk h (mEmpty σ z), .inl none) := by
  refine jr_1 jm_213 (show jw_cd cd_213 0 = some (.aload_n 0) by decide +kernel) rfl ?_
  refine jr_1 jm_213 (show jw_cd cd_213 1 = some (.getfield 38) by decide +kernel) (mg_a hl (a := 25) (show jw_fld 34 38 16 = some 11 by decide +kernel) (by decide) (by decide)) ?_
  refine jr_1 jm_213 (show jw_cd cd_213 4 = some (.iload_n 1) by decide +kernel) rfl ?_
  refine jr_1 jm_213 (show jw_cd cd_213 5 = some (.iconst 0) by decide +kernel) rfl ?_
  refine jr_1 jm_213 (show jw_cd cd_213 6 = some (.iastore) by decide +kernel) (ms_i hl (i := z) (x := 0) 11 (by omega) (by show _ < ((5 : Nat) : Int); omega) (by decide) (by decide) (by decide)) ?_
  refine jr_1 jm_213 (show jw_cd cd_213 7 = some (.aload_n 0) by decide +kernel) rfl ?_
  refine jr_1 jm_213 (show jw_cd cd_213 8 = some (.getfield 41) by decide +kernel) (mg_a hl (a := 26) (show jw_fld 34 41 16 = some 12 by decide +kernel) (by decide) (by decide)) ?_
  refine jr_1 jm_213 (show jw_cd cd_213 11 = some (.iload_n 1) by decide +kernel) rfl ?_
  refine jr_1 jm_213 (show jw_cd cd_213 12 = some (.iconst 0) by decide +kernel) rfl ?_
  refine jr_1 jm_213 (show jw_cd cd_213 13 = some (.iastore) by decide +kernel) (ms_i hl (i := z) (x := 0) 12 (by omega) (by show _ < ((5 : Nat) : Int); omega) (by decide) (by decide) (by decide)) ?_
  exact jr_v jm_213 (show jw_cd cd_213 14 = some (.return_) by decide +kernel) rfl
def mNode (σ : mS) (z k n t : Int) : mS := (su (su (su (su (su (su σ 11 (z) (σ 11 (z) + 1)) 3 (170 * z + (σ 11 (z))) (k)) 4 (170 * z + (σ 11 (z))) (n)) 5 (170 * z + (σ 11 (z))) (t)) 6 (170 * z + (σ 11 (z))) (-1)) 7 (170 * z + (σ 11 (z))) (0))
theorem jn_node {β : Bool} {d : Nat} {h : jx_H} {σ : mS} (hl : 49 ≤ h.length) {z k n t : Int} (hz : 0 ≤ z ∧ z < 5) (hn : 0 ≤ σ 11 z ∧ 170 * z + σ 11 z < 1740) : jx_r (jz β) jw_M (d) 208 (0, [some (.ref 15), some (.int (Int32.ofInt (z))), some (.int (Int32.ofInt (k))), some (.int (Int32.ofInt (n))), some (.long (Int64.ofInt (t))), none, none], [], ml_mk h σ) (ml_mk h (mNode σ z k n t), .inl (some (.int (Int32.ofInt (170 * z + σ 11 z))))) := by
  obtain ⟨z1, z2⟩ := hz
  obtain ⟨n1, n2⟩ := hn
  refine jr_1 jm_208 (show jw_cd cd_208 0 = some (.sipush 170) by decide +kernel) (mt_si (by decide)) ?_
  refine jr_1 jm_208 (show jw_cd cd_208 3 = some (.iload_n 1) by decide +kernel) rfl ?_
  refine jr_1 jm_208 (show jw_cd cd_208 4 = some (.imul) by decide +kernel) (mt_mul (c := 170 * z) rfl) ?_
  refine jr_1 jm_208 (show jw_cd cd_208 5 = some (.aload_n 0) by decide +kernel) rfl ?_
  refine jr_1 jm_208 (show jw_cd cd_208 6 = some (.getfield 38) by decide +kernel) (mg_a hl (a := 25) (show jw_fld 34 38 16 = some 11 by decide +kernel) (by decide) (by decide)) ?_
  refine jr_1 jm_208 (show jw_cd cd_208 9 = some (.iload_n 1) by decide +kernel) rfl ?_
  refine jr_1 jm_208 (show jw_cd cd_208 10 = some (.iaload) by decide +kernel) (ma_i hl (i := z) (e := σ 11 (z)) 11 (by omega) (by show _ < ((5 : Nat) : Int); omega) rfl (by decide) (by decide) (by decide)) ?_
  refine jr_1 jm_208 (show jw_cd cd_208 11 = some (.iadd) by decide +kernel) (mt_add (c := 170 * z + (σ 11 (z))) rfl) ?_
  refine jr_1 jm_208 (F2 := (14, [some (.ref 15), some (.int (Int32.ofInt (z))), some (.int (Int32.ofInt (k))), some (.int (Int32.ofInt (n))), some (.long (Int64.ofInt (t))), none, some (.int (Int32.ofInt (170 * z + (σ 11 (z)))))], [], ml_mk h σ)) (show jw_cd cd_208 12 = some (.istore 6) by decide +kernel) rfl ?_
  refine jr_1 jm_208 (show jw_cd cd_208 14 = some (.aload_n 0) by decide +kernel) rfl ?_
  refine jr_1 jm_208 (show jw_cd cd_208 15 = some (.getfield 38) by decide +kernel) (mg_a hl (a := 25) (show jw_fld 34 38 16 = some 11 by decide +kernel) (by decide) (by decide)) ?_
  refine jr_1 jm_208 (show jw_cd cd_208 18 = some (.iload_n 1) by decide +kernel) rfl ?_
  refine jr_1 jm_208 (show jw_cd cd_208 19 = some (.dup2) by decide +kernel) rfl ?_
  refine jr_1 jm_208 (show jw_cd cd_208 20 = some (.iaload) by decide +kernel) (ma_i hl (i := z) (e := σ 11 (z)) 11 (by omega) (by show _ < ((5 : Nat) : Int); omega) rfl (by decide) (by decide) (by decide)) ?_
  refine jr_1 jm_208 (show jw_cd cd_208 21 = some (.iconst 1) by decide +kernel) rfl ?_
  refine jr_1 jm_208 (show jw_cd cd_208 22 = some (.iadd) by decide +kernel) (mt_add (c := σ 11 (z) + 1) rfl) ?_
  refine jr_1 jm_208 (show jw_cd cd_208 23 = some (.iastore) by decide +kernel) (ms_i hl (i := z) (x := σ 11 (z) + 1) 11 (by omega) (by show _ < ((5 : Nat) : Int); omega) (by decide) (by decide) (by decide)) ?_
  refine jr_1 jm_208 (show jw_cd cd_208 24 = some (.aload_n 0) by decide +kernel) rfl ?_
  refine jr_1 jm_208 (show jw_cd cd_208 25 = some (.getfield 13) by decide +kernel) (mg_a hl (a := 17) (show jw_fld 34 13 16 = some 3 by decide +kernel) (by decide) (by decide)) ?_
  refine jr_1 jm_208 (show jw_cd cd_208 28 = some (.iload 6) by decide +kernel) rfl ?_
  refine jr_1 jm_208 (show jw_cd cd_208 30 = some (.iload_n 2) by decide +kernel) rfl ?_
  refine jr_1 jm_208 (show jw_cd cd_208 31 = some (.iastore) by decide +kernel) (ms_i hl (i := 170 * z + (σ 11 (z))) (x := k) 3 (by omega) (by show _ < ((1740 : Nat) : Int); omega) (by decide) (by decide) (by decide)) ?_
  refine jr_1 jm_208 (show jw_cd cd_208 32 = some (.aload_n 0) by decide +kernel) rfl ?_
  refine jr_1 jm_208 (show jw_cd cd_208 33 = some (.getfield 16) by decide +kernel) (mg_a hl (a := 18) (show jw_fld 34 16 16 = some 4 by decide +kernel) (by decide) (by decide)) ?_
  refine jr_1 jm_208 (show jw_cd cd_208 36 = some (.iload 6) by decide +kernel) rfl ?_
  refine jr_1 jm_208 (show jw_cd cd_208 38 = some (.iload_n 3) by decide +kernel) rfl ?_
  refine jr_1 jm_208 (show jw_cd cd_208 39 = some (.iastore) by decide +kernel) (ms_i hl (i := 170 * z + (σ 11 (z))) (x := n) 4 (by omega) (by show _ < ((1740 : Nat) : Int); omega) (by decide) (by decide) (by decide)) ?_
  refine jr_1 jm_208 (show jw_cd cd_208 40 = some (.aload_n 0) by decide +kernel) rfl ?_
  refine jr_1 jm_208 (show jw_cd cd_208 41 = some (.getfield 19) by decide +kernel) (mg_a hl (a := 19) (show jw_fld 34 19 16 = some 5 by decide +kernel) (by decide) (by decide)) ?_
  refine jr_1 jm_208 (show jw_cd cd_208 44 = some (.iload 6) by decide +kernel) rfl ?_
  refine jr_1 jm_208 (show jw_cd cd_208 46 = some (.lload 4) by decide +kernel) rfl ?_
  refine jr_1 jm_208 (show jw_cd cd_208 48 = some (.lastore) by decide +kernel) (ms_j hl (i := 170 * z + (σ 11 (z))) (x := t) 5 (by omega) (by show _ < ((1740 : Nat) : Int); omega) (by decide) (by decide) (by decide)) ?_
  refine jr_1 jm_208 (show jw_cd cd_208 49 = some (.aload_n 0) by decide +kernel) rfl ?_
  refine jr_1 jm_208 (show jw_cd cd_208 50 = some (.getfield 23) by decide +kernel) (mg_a hl (a := 20) (show jw_fld 34 23 16 = some 6 by decide +kernel) (by decide) (by decide)) ?_
  refine jr_1 jm_208 (show jw_cd cd_208 53 = some (.iload 6) by decide +kernel) rfl ?_
  refine jr_1 jm_208 (show jw_cd cd_208 55 = some (.iconst (-1)) by decide +kernel) rfl ?_
  refine jr_1 jm_208 (show jw_cd cd_208 56 = some (.iastore) by decide +kernel) (ms_i hl (i := 170 * z + (σ 11 (z))) (x := -1) 6 (by omega) (by show _ < ((1740 : Nat) : Int); omega) (by decide) (by decide) (by decide)) ?_
  refine jr_1 jm_208 (show jw_cd cd_208 57 = some (.aload_n 0) by decide +kernel) rfl ?_
  refine jr_1 jm_208 (show jw_cd cd_208 58 = some (.getfield 26) by decide +kernel) (mg_a hl (a := 21) (show jw_fld 34 26 16 = some 7 by decide +kernel) (by decide) (by decide)) ?_
  refine jr_1 jm_208 (show jw_cd cd_208 61 = some (.iload 6) by decide +kernel) rfl ?_
  refine jr_1 jm_208 (show jw_cd cd_208 63 = some (.iconst 0) by decide +kernel) rfl ?_
  refine jr_1 jm_208 (show jw_cd cd_208 64 = some (.iastore) by decide +kernel) (ms_i hl (i := 170 * z + (σ 11 (z))) (x := 0) 7 (by omega) (by show _ < ((1740 : Nat) : Int); omega) (by decide) (by decide) (by decide)) ?_
  refine jr_1 jm_208 (show jw_cd cd_208 65 = some (.iload 6) by decide +kernel) rfl ?_
  exact jr_v jm_208 (show jw_cd cd_208 67 = some (.ireturn) by decide +kernel) rfl
def mJoin0 (σ : mS) (z to bh w t : Int) : mS := (su (su (su (su (su (su σ 12 (z) (σ 12 (z) + 1)) 8 (170 * z + (σ 12 (z))) (w)) 9 (170 * z + (σ 12 (z))) (t)) 10 (170 * z + (σ 12 (z))) (-1)) 6 (to) (170 * z + (σ 12 (z)))) 7 (to) (σ 7 (to) + 1))
theorem jn_join0 {β : Bool} {d : Nat} {h : jx_H} {σ : mS} (hl : 49 ≤ h.length) {z to bh w t : Int} (hz : 0 ≤ z ∧ z < 5) (hn : 0 ≤ σ 12 z ∧ 170 * z + σ 12 z < 1740) (ht : 0 ≤ to ∧ to < 1740) (hb : bh = -1) : jx_r (jz β) jw_M (d) 229 (0, [some (.ref 15), some (.int (Int32.ofInt (z))), some (.int (Int32.ofInt (to))), some (.int (Int32.ofInt (bh))), some (.int (Int32.ofInt (w))), some (.long (Int64.ofInt (t))), none, none], [], ml_mk h σ) (ml_mk h (mJoin0 σ z to bh w t), .inl (some (.int (Int32.ofInt (170 * z + σ 12 z))))) := by
  obtain ⟨z1, z2⟩ := hz
  obtain ⟨n1, n2⟩ := hn
  obtain ⟨t1, t2⟩ := ht
  refine jr_1 jm_229 (show jw_cd cd_229 0 = some (.sipush 170) by decide +kernel) (mt_si (by decide)) ?_
  refine jr_1 jm_229 (show jw_cd cd_229 3 = some (.iload_n 1) by decide +kernel) rfl ?_
  refine jr_1 jm_229 (show jw_cd cd_229 4 = some (.imul) by decide +kernel) (mt_mul (c := 170 * z) rfl) ?_
  refine jr_1 jm_229 (show jw_cd cd_229 5 = some (.aload_n 0) by decide +kernel) rfl ?_
  refine jr_1 jm_229 (show jw_cd cd_229 6 = some (.getfield 41) by decide +kernel) (mg_a hl (a := 26) (show jw_fld 34 41 16 = some 12 by decide +kernel) (by decide) (by decide)) ?_
  refine jr_1 jm_229 (show jw_cd cd_229 9 = some (.iload_n 1) by decide +kernel) rfl ?_
  refine jr_1 jm_229 (show jw_cd cd_229 10 = some (.iaload) by decide +kernel) (ma_i hl (i := z) (e := σ 12 (z)) 12 (by omega) (by show _ < ((5 : Nat) : Int); omega) rfl (by decide) (by decide) (by decide)) ?_
  refine jr_1 jm_229 (show jw_cd cd_229 11 = some (.iadd) by decide +kernel) (mt_add (c := 170 * z + (σ 12 (z))) rfl) ?_
  refine jr_1 jm_229 (F2 := (14, [some (.ref 15), some (.int (Int32.ofInt (z))), some (.int (Int32.ofInt (to))), some (.int (Int32.ofInt (bh))), some (.int (Int32.ofInt (w))), some (.long (Int64.ofInt (t))), none, some (.int (Int32.ofInt (170 * z + (σ 12 (z)))))], [], ml_mk h σ)) (show jw_cd cd_229 12 = some (.istore 7) by decide +kernel) rfl ?_
  refine jr_1 jm_229 (show jw_cd cd_229 14 = some (.aload_n 0) by decide +kernel) rfl ?_
  refine jr_1 jm_229 (show jw_cd cd_229 15 = some (.getfield 41) by decide +kernel) (mg_a hl (a := 26) (show jw_fld 34 41 16 = some 12 by decide +kernel) (by decide) (by decide)) ?_
  refine jr_1 jm_229 (show jw_cd cd_229 18 = some (.iload_n 1) by decide +kernel) rfl ?_
  refine jr_1 jm_229 (show jw_cd cd_229 19 = some (.dup2) by decide +kernel) rfl ?_
  refine jr_1 jm_229 (show jw_cd cd_229 20 = some (.iaload) by decide +kernel) (ma_i hl (i := z) (e := σ 12 (z)) 12 (by omega) (by show _ < ((5 : Nat) : Int); omega) rfl (by decide) (by decide) (by decide)) ?_
  refine jr_1 jm_229 (show jw_cd cd_229 21 = some (.iconst 1) by decide +kernel) rfl ?_
  refine jr_1 jm_229 (show jw_cd cd_229 22 = some (.iadd) by decide +kernel) (mt_add (c := σ 12 (z) + 1) rfl) ?_
  refine jr_1 jm_229 (show jw_cd cd_229 23 = some (.iastore) by decide +kernel) (ms_i hl (i := z) (x := σ 12 (z) + 1) 12 (by omega) (by show _ < ((5 : Nat) : Int); omega) (by decide) (by decide) (by decide)) ?_
  refine jr_1 jm_229 (show jw_cd cd_229 24 = some (.aload_n 0) by decide +kernel) rfl ?_
  refine jr_1 jm_229 (show jw_cd cd_229 25 = some (.getfield 29) by decide +kernel) (mg_a hl (a := 22) (show jw_fld 34 29 16 = some 8 by decide +kernel) (by decide) (by decide)) ?_
  refine jr_1 jm_229 (show jw_cd cd_229 28 = some (.iload 7) by decide +kernel) rfl ?_
  refine jr_1 jm_229 (show jw_cd cd_229 30 = some (.iload 4) by decide +kernel) rfl ?_
  refine jr_1 jm_229 (show jw_cd cd_229 32 = some (.iastore) by decide +kernel) (ms_i hl (i := 170 * z + (σ 12 (z))) (x := w) 8 (by omega) (by show _ < ((1740 : Nat) : Int); omega) (by decide) (by decide) (by decide)) ?_
  refine jr_1 jm_229 (show jw_cd cd_229 33 = some (.aload_n 0) by decide +kernel) rfl ?_
  refine jr_1 jm_229 (show jw_cd cd_229 34 = some (.getfield 32) by decide +kernel) (mg_a hl (a := 23) (show jw_fld 34 32 16 = some 9 by decide +kernel) (by decide) (by decide)) ?_
  refine jr_1 jm_229 (show jw_cd cd_229 37 = some (.iload 7) by decide +kernel) rfl ?_
  refine jr_1 jm_229 (show jw_cd cd_229 39 = some (.lload 5) by decide +kernel) rfl ?_
  refine jr_1 jm_229 (show jw_cd cd_229 41 = some (.lastore) by decide +kernel) (ms_j hl (i := 170 * z + (σ 12 (z))) (x := t) 9 (by omega) (by show _ < ((1740 : Nat) : Int); omega) (by decide) (by decide) (by decide)) ?_
  refine jr_1 jm_229 (show jw_cd cd_229 42 = some (.aload_n 0) by decide +kernel) rfl ?_
  refine jr_1 jm_229 (show jw_cd cd_229 43 = some (.getfield 35) by decide +kernel) (mg_a hl (a := 24) (show jw_fld 34 35 16 = some 10 by decide +kernel) (by decide) (by decide)) ?_
  refine jr_1 jm_229 (show jw_cd cd_229 46 = some (.iload 7) by decide +kernel) rfl ?_
  refine jr_1 jm_229 (show jw_cd cd_229 48 = some (.iconst (-1)) by decide +kernel) rfl ?_
  refine jr_1 jm_229 (show jw_cd cd_229 49 = some (.iastore) by decide +kernel) (ms_i hl (i := 170 * z + (σ 12 (z))) (x := -1) 10 (by omega) (by show _ < ((1740 : Nat) : Int); omega) (by decide) (by decide) (by decide)) ?_
  refine jr_1 jm_229 (show jw_cd cd_229 50 = some (.iload_n 3) by decide +kernel) rfl ?_
  refine jr_1 jm_229 (show jw_cd cd_229 51 = some (.iconst (-1)) by decide +kernel) rfl ?_
  refine jr_1 jm_229 (show jw_cd cd_229 52 = some (.if_icmp .ne 14) by decide +kernel) (mb_f (q := .ne) (a := bh) (b := -1) (by show ¬ (¬ (bh = -1)); omega) ⟨by omega, by omega⟩ ⟨by omega, by omega⟩ (by decide)) ?_
  refine jr_1 jm_229 (show jw_cd cd_229 55 = some (.aload_n 0) by decide +kernel) rfl ?_
  refine jr_1 jm_229 (show jw_cd cd_229 56 = some (.getfield 23) by decide +kernel) (mg_a hl (a := 20) (show jw_fld 34 23 16 = some 6 by decide +kernel) (by decide) (by decide)) ?_
  refine jr_1 jm_229 (show jw_cd cd_229 59 = some (.iload_n 2) by decide +kernel) rfl ?_
  refine jr_1 jm_229 (show jw_cd cd_229 60 = some (.iload 7) by decide +kernel) rfl ?_
  refine jr_1 jm_229 (show jw_cd cd_229 62 = some (.iastore) by decide +kernel) (ms_i hl (i := to) (x := 170 * z + (σ 12 (z))) 6 (by omega) (by show _ < ((1740 : Nat) : Int); omega) (by decide) (by decide) (by decide)) ?_
  refine jr_1 jm_229 (show jw_cd cd_229 63 = some (.goto 11) by decide +kernel) (ju_go (t := 74) (by decide)) ?_
  refine jr_1 jm_229 (show jw_cd cd_229 74 = some (.aload_n 0) by decide +kernel) rfl ?_
  refine jr_1 jm_229 (show jw_cd cd_229 75 = some (.getfield 26) by decide +kernel) (mg_a hl (a := 21) (show jw_fld 34 26 16 = some 7 by decide +kernel) (by decide) (by decide)) ?_
  refine jr_1 jm_229 (show jw_cd cd_229 78 = some (.iload_n 2) by decide +kernel) rfl ?_
  refine jr_1 jm_229 (show jw_cd cd_229 79 = some (.dup2) by decide +kernel) rfl ?_
  refine jr_1 jm_229 (show jw_cd cd_229 80 = some (.iaload) by decide +kernel) (ma_i hl (i := to) (e := σ 7 (to)) 7 (by omega) (by show _ < ((1740 : Nat) : Int); omega) ((su_nf (by decide)).trans ((su_nf (by decide)).trans ((su_nf (by decide)).trans ((su_nf (by decide)).trans (su_nf (by decide)))))) (by decide) (by decide) (by decide)) ?_
  refine jr_1 jm_229 (show jw_cd cd_229 81 = some (.iconst 1) by decide +kernel) rfl ?_
  refine jr_1 jm_229 (show jw_cd cd_229 82 = some (.iadd) by decide +kernel) (mt_add (c := σ 7 (to) + 1) rfl) ?_
  refine jr_1 jm_229 (show jw_cd cd_229 83 = some (.iastore) by decide +kernel) (ms_i hl (i := to) (x := σ 7 (to) + 1) 7 (by omega) (by show _ < ((1740 : Nat) : Int); omega) (by decide) (by decide) (by decide)) ?_
  refine jr_1 jm_229 (show jw_cd cd_229 84 = some (.iload 7) by decide +kernel) rfl ?_
  exact jr_v jm_229 (show jw_cd cd_229 86 = some (.ireturn) by decide +kernel) rfl
def mJoin1 (σ : mS) (z to bh w t : Int) : mS := (su (su (su (su (su (su σ 12 (z) (σ 12 (z) + 1)) 8 (170 * z + (σ 12 (z))) (w)) 9 (170 * z + (σ 12 (z))) (t)) 10 (170 * z + (σ 12 (z))) (-1)) 10 (bh) (170 * z + (σ 12 (z)))) 7 (to) (σ 7 (to) + 1))
theorem jn_join1 {β : Bool} {d : Nat} {h : jx_H} {σ : mS} (hl : 49 ≤ h.length) {z to bh w t : Int} (hz : 0 ≤ z ∧ z < 5) (hn : 0 ≤ σ 12 z ∧ 170 * z + σ 12 z < 1740) (ht : 0 ≤ to ∧ to < 1740) (hb : 0 ≤ bh ∧ bh < 1740) : jx_r (jz β) jw_M (d) 229 (0, [some (.ref 15), some (.int (Int32.ofInt (z))), some (.int (Int32.ofInt (to))), some (.int (Int32.ofInt (bh))), some (.int (Int32.ofInt (w))), some (.long (Int64.ofInt (t))), none, none], [], ml_mk h σ) (ml_mk h (mJoin1 σ z to bh w t), .inl (some (.int (Int32.ofInt (170 * z + σ 12 z))))) := by
  obtain ⟨z1, z2⟩ := hz
  obtain ⟨n1, n2⟩ := hn
  obtain ⟨t1, t2⟩ := ht
  obtain ⟨b1, b2⟩ := hb
  refine jr_1 jm_229 (show jw_cd cd_229 0 = some (.sipush 170) by decide +kernel) (mt_si (by decide)) ?_
  refine jr_1 jm_229 (show jw_cd cd_229 3 = some (.iload_n 1) by decide +kernel) rfl ?_
  refine jr_1 jm_229 (show jw_cd cd_229 4 = some (.imul) by decide +kernel) (mt_mul (c := 170 * z) rfl) ?_
  refine jr_1 jm_229 (show jw_cd cd_229 5 = some (.aload_n 0) by decide +kernel) rfl ?_
  refine jr_1 jm_229 (show jw_cd cd_229 6 = some (.getfield 41) by decide +kernel) (mg_a hl (a := 26) (show jw_fld 34 41 16 = some 12 by decide +kernel) (by decide) (by decide)) ?_
  refine jr_1 jm_229 (show jw_cd cd_229 9 = some (.iload_n 1) by decide +kernel) rfl ?_
  refine jr_1 jm_229 (show jw_cd cd_229 10 = some (.iaload) by decide +kernel) (ma_i hl (i := z) (e := σ 12 (z)) 12 (by omega) (by show _ < ((5 : Nat) : Int); omega) rfl (by decide) (by decide) (by decide)) ?_
  refine jr_1 jm_229 (show jw_cd cd_229 11 = some (.iadd) by decide +kernel) (mt_add (c := 170 * z + (σ 12 (z))) rfl) ?_
  refine jr_1 jm_229 (F2 := (14, [some (.ref 15), some (.int (Int32.ofInt (z))), some (.int (Int32.ofInt (to))), some (.int (Int32.ofInt (bh))), some (.int (Int32.ofInt (w))), some (.long (Int64.ofInt (t))), none, some (.int (Int32.ofInt (170 * z + (σ 12 (z)))))], [], ml_mk h σ)) (show jw_cd cd_229 12 = some (.istore 7) by decide +kernel) rfl ?_
  refine jr_1 jm_229 (show jw_cd cd_229 14 = some (.aload_n 0) by decide +kernel) rfl ?_
  refine jr_1 jm_229 (show jw_cd cd_229 15 = some (.getfield 41) by decide +kernel) (mg_a hl (a := 26) (show jw_fld 34 41 16 = some 12 by decide +kernel) (by decide) (by decide)) ?_
  refine jr_1 jm_229 (show jw_cd cd_229 18 = some (.iload_n 1) by decide +kernel) rfl ?_
  refine jr_1 jm_229 (show jw_cd cd_229 19 = some (.dup2) by decide +kernel) rfl ?_
  refine jr_1 jm_229 (show jw_cd cd_229 20 = some (.iaload) by decide +kernel) (ma_i hl (i := z) (e := σ 12 (z)) 12 (by omega) (by show _ < ((5 : Nat) : Int); omega) rfl (by decide) (by decide) (by decide)) ?_
  refine jr_1 jm_229 (show jw_cd cd_229 21 = some (.iconst 1) by decide +kernel) rfl ?_
  refine jr_1 jm_229 (show jw_cd cd_229 22 = some (.iadd) by decide +kernel) (mt_add (c := σ 12 (z) + 1) rfl) ?_
  refine jr_1 jm_229 (show jw_cd cd_229 23 = some (.iastore) by decide +kernel) (ms_i hl (i := z) (x := σ 12 (z) + 1) 12 (by omega) (by show _ < ((5 : Nat) : Int); omega) (by decide) (by decide) (by decide)) ?_
  refine jr_1 jm_229 (show jw_cd cd_229 24 = some (.aload_n 0) by decide +kernel) rfl ?_
  refine jr_1 jm_229 (show jw_cd cd_229 25 = some (.getfield 29) by decide +kernel) (mg_a hl (a := 22) (show jw_fld 34 29 16 = some 8 by decide +kernel) (by decide) (by decide)) ?_
  refine jr_1 jm_229 (show jw_cd cd_229 28 = some (.iload 7) by decide +kernel) rfl ?_
  refine jr_1 jm_229 (show jw_cd cd_229 30 = some (.iload 4) by decide +kernel) rfl ?_
  refine jr_1 jm_229 (show jw_cd cd_229 32 = some (.iastore) by decide +kernel) (ms_i hl (i := 170 * z + (σ 12 (z))) (x := w) 8 (by omega) (by show _ < ((1740 : Nat) : Int); omega) (by decide) (by decide) (by decide)) ?_
  refine jr_1 jm_229 (show jw_cd cd_229 33 = some (.aload_n 0) by decide +kernel) rfl ?_
  refine jr_1 jm_229 (show jw_cd cd_229 34 = some (.getfield 32) by decide +kernel) (mg_a hl (a := 23) (show jw_fld 34 32 16 = some 9 by decide +kernel) (by decide) (by decide)) ?_
  refine jr_1 jm_229 (show jw_cd cd_229 37 = some (.iload 7) by decide +kernel) rfl ?_
  refine jr_1 jm_229 (show jw_cd cd_229 39 = some (.lload 5) by decide +kernel) rfl ?_
  refine jr_1 jm_229 (show jw_cd cd_229 41 = some (.lastore) by decide +kernel) (ms_j hl (i := 170 * z + (σ 12 (z))) (x := t) 9 (by omega) (by show _ < ((1740 : Nat) : Int); omega) (by decide) (by decide) (by decide)) ?_
  refine jr_1 jm_229 (show jw_cd cd_229 42 = some (.aload_n 0) by decide +kernel) rfl ?_
  refine jr_1 jm_229 (show jw_cd cd_229 43 = some (.getfield 35) by decide +kernel) (mg_a hl (a := 24) (show jw_fld 34 35 16 = some 10 by decide +kernel) (by decide) (by decide)) ?_
  refine jr_1 jm_229 (show jw_cd cd_229 46 = some (.iload 7) by decide +kernel) rfl ?_
  refine jr_1 jm_229 (show jw_cd cd_229 48 = some (.iconst (-1)) by decide +kernel) rfl ?_
  refine jr_1 jm_229 (show jw_cd cd_229 49 = some (.iastore) by decide +kernel) (ms_i hl (i := 170 * z + (σ 12 (z))) (x := -1) 10 (by omega) (by show _ < ((1740 : Nat) : Int); omega) (by decide) (by decide) (by decide)) ?_
  refine jr_1 jm_229 (show jw_cd cd_229 50 = some (.iload_n 3) by decide +kernel) rfl ?_
  refine jr_1 jm_229 (show jw_cd cd_229 51 = some (.iconst (-1)) by decide +kernel) rfl ?_
  refine jr_1 jm_229 (show jw_cd cd_229 52 = some (.if_icmp .ne 14) by decide +kernel) (mb_t (q := .ne) (a := bh) (b := -1) (t := 66) (by show ¬ (bh = -1); omega) ⟨by omega, by omega⟩ ⟨by omega, by omega⟩ (by decide) (by decide)) ?_
  refine jr_1 jm_229 (show jw_cd cd_229 66 = some (.aload_n 0) by decide +kernel) rfl ?_
  refine jr_1 jm_229 (show jw_cd cd_229 67 = some (.getfield 35) by decide +kernel) (mg_a hl (a := 24) (show jw_fld 34 35 16 = some 10 by decide +kernel) (by decide) (by decide)) ?_
  refine jr_1 jm_229 (show jw_cd cd_229 70 = some (.iload_n 3) by decide +kernel) rfl ?_
  refine jr_1 jm_229 (show jw_cd cd_229 71 = some (.iload 7) by decide +kernel) rfl ?_
  refine jr_1 jm_229 (show jw_cd cd_229 73 = some (.iastore) by decide +kernel) (ms_i hl (i := bh) (x := 170 * z + (σ 12 (z))) 10 (by omega) (by show _ < ((1740 : Nat) : Int); omega) (by decide) (by decide) (by decide)) ?_
  refine jr_1 jm_229 (show jw_cd cd_229 74 = some (.aload_n 0) by decide +kernel) rfl ?_
  refine jr_1 jm_229 (show jw_cd cd_229 75 = some (.getfield 26) by decide +kernel) (mg_a hl (a := 21) (show jw_fld 34 26 16 = some 7 by decide +kernel) (by decide) (by decide)) ?_
  refine jr_1 jm_229 (show jw_cd cd_229 78 = some (.iload_n 2) by decide +kernel) rfl ?_
  refine jr_1 jm_229 (show jw_cd cd_229 79 = some (.dup2) by decide +kernel) rfl ?_
  refine jr_1 jm_229 (show jw_cd cd_229 80 = some (.iaload) by decide +kernel) (ma_i hl (i := to) (e := σ 7 (to)) 7 (by omega) (by show _ < ((1740 : Nat) : Int); omega) ((su_nf (by decide)).trans ((su_nf (by decide)).trans ((su_nf (by decide)).trans ((su_nf (by decide)).trans (su_nf (by decide)))))) (by decide) (by decide) (by decide)) ?_
  refine jr_1 jm_229 (show jw_cd cd_229 81 = some (.iconst 1) by decide +kernel) rfl ?_
  refine jr_1 jm_229 (show jw_cd cd_229 82 = some (.iadd) by decide +kernel) (mt_add (c := σ 7 (to) + 1) rfl) ?_
  refine jr_1 jm_229 (show jw_cd cd_229 83 = some (.iastore) by decide +kernel) (ms_i hl (i := to) (x := σ 7 (to) + 1) 7 (by omega) (by show _ < ((1740 : Nat) : Int); omega) (by decide) (by decide) (by decide)) ?_
  refine jr_1 jm_229 (show jw_cd cd_229 84 = some (.iload 7) by decide +kernel) rfl ?_
  exact jr_v jm_229 (show jw_cd cd_229 86 = some (.ireturn) by decide +kernel) rfl
def mMark (σ : mS) (c : Int) : mS := (su (su σ 46 (σ 45 0) (c)) 45 (0) (σ 45 0 + 1))
theorem jn_mark {β : Bool} {d : Nat} {h : jx_H} {σ : mS} (hl : 49 ≤ h.length) {c : Int} (hw : 0 ≤ σ 45 0 ∧ σ 45 0 < 500) : jx_r (jz β) jw_M (d) 277 (0, [some (.ref 15), some (.int (Int32.ofInt (c)))], [], ml_mk h σ) (ml_mk h (mMark σ c), .inl none) := by
  obtain ⟨w1, w2⟩ := hw
  refine jr_1 jm_277 (show jw_cd cd_277 0 = some (.aload_n 0) by decide +kernel) rfl ?_
  refine jr_1 jm_277 (show jw_cd cd_277 1 = some (.getfield 107) by decide +kernel) (mg_a hl (a := 48) (show jw_fld 34 107 16 = some 46 by decide +kernel) (by decide) (by decide)) ?_
  refine jr_1 jm_277 (show jw_cd cd_277 4 = some (.aload_n 0) by decide +kernel) rfl ?_
  refine jr_1 jm_277 (show jw_cd cd_277 5 = some (.getfield 353) by decide +kernel) (mg_i hl (e := σ 45 0) rfl (show jw_fld 34 353 16 = some 45 by decide +kernel) (by decide) (by decide)) ?_
  refine jr_1 jm_277 (show jw_cd cd_277 8 = some (.iload_n 1) by decide +kernel) rfl ?_
  refine jr_1 jm_277 (show jw_cd cd_277 9 = some (.iastore) by decide +kernel) (ms_i hl (i := σ 45 0) (x := c) 46 (by omega) (by show _ < ((500 : Nat) : Int); omega) (by decide) (by decide) (by decide)) ?_
  refine jr_1 jm_277 (show jw_cd cd_277 10 = some (.aload_n 0) by decide +kernel) rfl ?_
  refine jr_1 jm_277 (show jw_cd cd_277 11 = some (.dup) by decide +kernel) rfl ?_
  refine jr_1 jm_277 (show jw_cd cd_277 12 = some (.getfield 353) by decide +kernel) (mg_i hl (e := σ 45 0) (su_nf (by decide)) (show jw_fld 34 353 16 = some 45 by decide +kernel) (by decide) (by decide)) ?_
  refine jr_1 jm_277 (show jw_cd cd_277 15 = some (.iconst 1) by decide +kernel) rfl ?_
  refine jr_1 jm_277 (show jw_cd cd_277 16 = some (.iadd) by decide +kernel) (mt_add (c := σ 45 0 + 1) rfl) ?_
  refine jr_1 jm_277 (show jw_cd cd_277 17 = some (.putfield 353) by decide +kernel) (mp_i hl (x := σ 45 0 + 1) (show jw_fld 34 353 16 = some 45 by decide +kernel) (by decide) (by decide) (show jw_ft 16 45 = some .int by decide +kernel) (show jw_fm 34 16 45 = some false by decide +kernel)) ?_
  exact jr_v jm_277 (show jw_cd cd_277 20 = some (.return_) by decide +kernel) rfl
def mEnter (σ : mS) (v w : Int) : mS := (su (su (su (su σ 37 (σ 36 0) (v)) 38 (σ 36 0) (w)) 39 (σ 36 0) (0)) 36 (0) (σ 36 0 + 1))
theorem jn_enter {β : Bool} {d : Nat} {h : jx_H} {σ : mS} (hl : 49 ≤ h.length) {v w : Int} (hw : 0 ≤ σ 36 0 ∧ σ 36 0 < 400) : jx_r (jz β) jw_M (d) 261 (0, [some (.ref 15), some (.int (Int32.ofInt (v))), some (.int (Int32.ofInt (w)))], [], ml_mk h σ) (ml_mk h (mEnter σ v w), .inl none) := by
  obtain ⟨w1, w2⟩ := hw
  refine jr_1 jm_261 (show jw_cd cd_261 0 = some (.aload_n 0) by decide +kernel) rfl ?_
  refine jr_1 jm_261 (show jw_cd cd_261 1 = some (.getfield 89) by decide +kernel) (mg_a hl (a := 42) (show jw_fld 34 89 16 = some 37 by decide +kernel) (by decide) (by decide)) ?_
  refine jr_1 jm_261 (show jw_cd cd_261 4 = some (.aload_n 0) by decide +kernel) rfl ?_
  refine jr_1 jm_261 (show jw_cd cd_261 5 = some (.getfield 264) by decide +kernel) (mg_i hl (e := σ 36 0) rfl (show jw_fld 34 264 16 = some 36 by decide +kernel) (by decide) (by decide)) ?_
  refine jr_1 jm_261 (show jw_cd cd_261 8 = some (.iload_n 1) by decide +kernel) rfl ?_
  refine jr_1 jm_261 (show jw_cd cd_261 9 = some (.iastore) by decide +kernel) (ms_i hl (i := σ 36 0) (x := v) 37 (by omega) (by show _ < ((400 : Nat) : Int); omega) (by decide) (by decide) (by decide)) ?_
  refine jr_1 jm_261 (show jw_cd cd_261 10 = some (.aload_n 0) by decide +kernel) rfl ?_
  refine jr_1 jm_261 (show jw_cd cd_261 11 = some (.getfield 92) by decide +kernel) (mg_a hl (a := 43) (show jw_fld 34 92 16 = some 38 by decide +kernel) (by decide) (by decide)) ?_
  refine jr_1 jm_261 (show jw_cd cd_261 14 = some (.aload_n 0) by decide +kernel) rfl ?_
  refine jr_1 jm_261 (show jw_cd cd_261 15 = some (.getfield 264) by decide +kernel) (mg_i hl (e := σ 36 0) (su_nf (by decide)) (show jw_fld 34 264 16 = some 36 by decide +kernel) (by decide) (by decide)) ?_
  refine jr_1 jm_261 (show jw_cd cd_261 18 = some (.iload_n 2) by decide +kernel) rfl ?_
  refine jr_1 jm_261 (show jw_cd cd_261 19 = some (.iastore) by decide +kernel) (ms_i hl (i := σ 36 0) (x := w) 38 (by omega) (by show _ < ((400 : Nat) : Int); omega) (by decide) (by decide) (by decide)) ?_
  refine jr_1 jm_261 (show jw_cd cd_261 20 = some (.aload_n 0) by decide +kernel) rfl ?_
  refine jr_1 jm_261 (show jw_cd cd_261 21 = some (.getfield 95) by decide +kernel) (mg_a hl (a := 44) (show jw_fld 34 95 16 = some 39 by decide +kernel) (by decide) (by decide)) ?_
  refine jr_1 jm_261 (show jw_cd cd_261 24 = some (.aload_n 0) by decide +kernel) rfl ?_
  refine jr_1 jm_261 (show jw_cd cd_261 25 = some (.getfield 264) by decide +kernel) (mg_i hl (e := σ 36 0) ((su_nf (by decide)).trans (su_nf (by decide))) (show jw_fld 34 264 16 = some 36 by decide +kernel) (by decide) (by decide)) ?_
  refine jr_1 jm_261 (show jw_cd cd_261 28 = some (.iconst 0) by decide +kernel) rfl ?_
  refine jr_1 jm_261 (show jw_cd cd_261 29 = some (.iastore) by decide +kernel) (ms_i hl (i := σ 36 0) (x := 0) 39 (by omega) (by show _ < ((400 : Nat) : Int); omega) (by decide) (by decide) (by decide)) ?_
  refine jr_1 jm_261 (show jw_cd cd_261 30 = some (.aload_n 0) by decide +kernel) rfl ?_
  refine jr_1 jm_261 (show jw_cd cd_261 31 = some (.dup) by decide +kernel) rfl ?_
  refine jr_1 jm_261 (show jw_cd cd_261 32 = some (.getfield 264) by decide +kernel) (mg_i hl (e := σ 36 0) ((su_nf (by decide)).trans ((su_nf (by decide)).trans (su_nf (by decide)))) (show jw_fld 34 264 16 = some 36 by decide +kernel) (by decide) (by decide)) ?_
  refine jr_1 jm_261 (show jw_cd cd_261 35 = some (.iconst 1) by decide +kernel) rfl ?_
  refine jr_1 jm_261 (show jw_cd cd_261 36 = some (.iadd) by decide +kernel) (mt_add (c := σ 36 0 + 1) rfl) ?_
  refine jr_1 jm_261 (show jw_cd cd_261 37 = some (.putfield 264) by decide +kernel) (mp_i hl (x := σ 36 0 + 1) (show jw_fld 34 264 16 = some 36 by decide +kernel) (by decide) (by decide) (show jw_ft 16 36 = some .int by decide +kernel) (show jw_fm 34 16 36 = some false by decide +kernel)) ?_
  exact jr_v jm_261 (show jw_cd cd_261 40 = some (.return_) by decide +kernel) rfl
