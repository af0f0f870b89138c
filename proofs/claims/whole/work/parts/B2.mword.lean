/-! ===== the model's packed, wordOf, typeOf, fits, above (printed by program: gen35.py) ===== -/
theorem jn_packed {β : Bool} {d : Nat} {h : jx_H} {σ : mS} (hl : 49 ≤ h.length) {c0 c1 c2 c3 c4 c5 c6 : Int} (h0 : 0 ≤ c0 ∧ c0 < 128) (h1 : 0 ≤ c1 ∧ c1 < 128) (h2 : 0 ≤ c2 ∧ c2 < 128) (h3 : 0 ≤ c3 ∧ c3 < 128) (h4 : 0 ≤ c4 ∧ c4 < 128) (h5 : 0 ≤ c5 ∧ c5 < 128) (h6 : 0 ≤ c6 ∧ c6 < 128) : jx_r (jz β) jw_M (d + 1) 236 (0, [some (.int (Int32.ofInt (c0))), some (.int (Int32.ofInt (c1))), some (.int (Int32.ofInt (c2))), some (.int (Int32.ofInt (c3))), some (.int (Int32.ofInt (c4))), some (.int (Int32.ofInt (c5))), some (.int (Int32.ofInt (c6))), none, none], [], ml_mk h σ) (ml_mk h (σ), .inl (some (.long (Int64.ofInt (pk [c0, c1, c2, c3, c4, c5, c6]))))) := by
  refine jr_1 jm_236 (F2 := (1, [some (.int (Int32.ofInt (c0))), some (.int (Int32.ofInt (c1))), some (.int (Int32.ofInt (c2))), some (.int (Int32.ofInt (c3))), some (.int (Int32.ofInt (c4))), some (.int (Int32.ofInt (c5))), some (.int (Int32.ofInt (c6))), none, none], [.long (Int64.ofInt (0))], ml_mk h σ)) (show jw_cd cd_236 0 = some (.lconst 0) by decide +kernel) rfl ?_
  refine jr_1 jm_236 (show jw_cd cd_236 1 = some (.iconst 0) by decide +kernel) rfl ?_
  refine jr_1 jm_236 (show jw_cd cd_236 2 = some (.iload_n 0) by decide +kernel) rfl ?_
  rw [show (Int64.ofInt (0)) = Int64.ofInt (pk []) from rfl]
  refine jr_c jm_236 (show jw_cd cd_236 3 = some (.invokestatic 166) by decide +kernel) (mc_s (n := 3) (m2 := 220) (bs := [.long (Int64.ofInt (pk [])), .int (Int32.ofInt (0)), .int (Int32.ofInt (c0))]) (r := []) (by decide) (show jw_find jw_csT 34 166 = some (220, 3) by decide +kernel) rfl rfl rfl) jm_220 ⟨Nat.le_of_ble_eq_true rfl, by decide⟩ (jn_with hl (l := []) (m := 0) rfl (Nat.le_of_ble_eq_true rfl) ⟨by omega, by omega⟩) ?_
  refine jr_1 jm_236 (show jw_cd cd_236 6 = some (.iconst 1) by decide +kernel) rfl ?_
  refine jr_1 jm_236 (show jw_cd cd_236 7 = some (.iload_n 1) by decide +kernel) rfl ?_
  rw [show [] ++ [c0] = [c0] from rfl]
  refine jr_c jm_236 (show jw_cd cd_236 8 = some (.invokestatic 166) by decide +kernel) (mc_s (n := 3) (m2 := 220) (bs := [.long (Int64.ofInt (pk [c0])), .int (Int32.ofInt (1)), .int (Int32.ofInt (c1))]) (r := []) (by decide) (show jw_find jw_csT 34 166 = some (220, 3) by decide +kernel) rfl rfl rfl) jm_220 ⟨Nat.le_of_ble_eq_true rfl, by decide⟩ (jn_with hl (l := [c0]) (m := 1) rfl (Nat.le_of_ble_eq_true rfl) ⟨by omega, by omega⟩) ?_
  refine jr_1 jm_236 (show jw_cd cd_236 11 = some (.iconst 2) by decide +kernel) rfl ?_
  refine jr_1 jm_236 (show jw_cd cd_236 12 = some (.iload_n 2) by decide +kernel) rfl ?_
  rw [show [c0] ++ [c1] = [c0, c1] from rfl]
  refine jr_c jm_236 (show jw_cd cd_236 13 = some (.invokestatic 166) by decide +kernel) (mc_s (n := 3) (m2 := 220) (bs := [.long (Int64.ofInt (pk [c0, c1])), .int (Int32.ofInt (2)), .int (Int32.ofInt (c2))]) (r := []) (by decide) (show jw_find jw_csT 34 166 = some (220, 3) by decide +kernel) rfl rfl rfl) jm_220 ⟨Nat.le_of_ble_eq_true rfl, by decide⟩ (jn_with hl (l := [c0, c1]) (m := 2) rfl (Nat.le_of_ble_eq_true rfl) ⟨by omega, by omega⟩) ?_
  refine jr_1 jm_236 (F2 := (18, [some (.int (Int32.ofInt (c0))), some (.int (Int32.ofInt (c1))), some (.int (Int32.ofInt (c2))), some (.int (Int32.ofInt (c3))), some (.int (Int32.ofInt (c4))), some (.int (Int32.ofInt (c5))), some (.int (Int32.ofInt (c6))), some (.long (Int64.ofInt (pk ([c0, c1] ++ [c2])))), none], [], ml_mk h σ)) (show jw_cd cd_236 16 = some (.lstore 7) by decide +kernel) rfl ?_
  refine jr_1 jm_236 (show jw_cd cd_236 18 = some (.lload 7) by decide +kernel) rfl ?_
  refine jr_1 jm_236 (show jw_cd cd_236 20 = some (.iconst 3) by decide +kernel) rfl ?_
  refine jr_1 jm_236 (show jw_cd cd_236 21 = some (.iload_n 3) by decide +kernel) rfl ?_
  rw [show [c0, c1] ++ [c2] = [c0, c1, c2] from rfl]
  refine jr_c jm_236 (show jw_cd cd_236 22 = some (.invokestatic 166) by decide +kernel) (mc_s (n := 3) (m2 := 220) (bs := [.long (Int64.ofInt (pk [c0, c1, c2])), .int (Int32.ofInt (3)), .int (Int32.ofInt (c3))]) (r := []) (by decide) (show jw_find jw_csT 34 166 = some (220, 3) by decide +kernel) rfl rfl rfl) jm_220 ⟨Nat.le_of_ble_eq_true rfl, by decide⟩ (jn_with hl (l := [c0, c1, c2]) (m := 3) rfl (Nat.le_of_ble_eq_true rfl) ⟨by omega, by omega⟩) ?_
  refine jr_1 jm_236 (show jw_cd cd_236 25 = some (.iconst 4) by decide +kernel) rfl ?_
  refine jr_1 jm_236 (show jw_cd cd_236 26 = some (.iload 4) by decide +kernel) rfl ?_
  rw [show [c0, c1, c2] ++ [c3] = [c0, c1, c2, c3] from rfl]
  refine jr_c jm_236 (show jw_cd cd_236 28 = some (.invokestatic 166) by decide +kernel) (mc_s (n := 3) (m2 := 220) (bs := [.long (Int64.ofInt (pk [c0, c1, c2, c3])), .int (Int32.ofInt (4)), .int (Int32.ofInt (c4))]) (r := []) (by decide) (show jw_find jw_csT 34 166 = some (220, 3) by decide +kernel) rfl rfl rfl) jm_220 ⟨Nat.le_of_ble_eq_true rfl, by decide⟩ (jn_with hl (l := [c0, c1, c2, c3]) (m := 4) rfl (Nat.le_of_ble_eq_true rfl) ⟨by omega, by omega⟩) ?_
  refine jr_1 jm_236 (show jw_cd cd_236 31 = some (.iconst 5) by decide +kernel) rfl ?_
  refine jr_1 jm_236 (show jw_cd cd_236 32 = some (.iload 5) by decide +kernel) rfl ?_
  rw [show [c0, c1, c2, c3] ++ [c4] = [c0, c1, c2, c3, c4] from rfl]
  refine jr_c jm_236 (show jw_cd cd_236 34 = some (.invokestatic 166) by decide +kernel) (mc_s (n := 3) (m2 := 220) (bs := [.long (Int64.ofInt (pk [c0, c1, c2, c3, c4])), .int (Int32.ofInt (5)), .int (Int32.ofInt (c5))]) (r := []) (by decide) (show jw_find jw_csT 34 166 = some (220, 3) by decide +kernel) rfl rfl rfl) jm_220 ⟨Nat.le_of_ble_eq_true rfl, by decide⟩ (jn_with hl (l := [c0, c1, c2, c3, c4]) (m := 5) rfl (Nat.le_of_ble_eq_true rfl) ⟨by omega, by omega⟩) ?_
  refine jr_1 jm_236 (show jw_cd cd_236 37 = some (.bipush 6) by decide +kernel) (mt_bi (by decide)) ?_
  refine jr_1 jm_236 (show jw_cd cd_236 39 = some (.iload 6) by decide +kernel) rfl ?_
  rw [show [c0, c1, c2, c3, c4] ++ [c5] = [c0, c1, c2, c3, c4, c5] from rfl]
  refine jr_c jm_236 (show jw_cd cd_236 41 = some (.invokestatic 166) by decide +kernel) (mc_s (n := 3) (m2 := 220) (bs := [.long (Int64.ofInt (pk [c0, c1, c2, c3, c4, c5])), .int (Int32.ofInt (6)), .int (Int32.ofInt (c6))]) (r := []) (by decide) (show jw_find jw_csT 34 166 = some (220, 3) by decide +kernel) rfl rfl rfl) jm_220 ⟨Nat.le_of_ble_eq_true rfl, by decide⟩ (jn_with hl (l := [c0, c1, c2, c3, c4, c5]) (m := 6) rfl (Nat.le_of_ble_eq_true rfl) ⟨by omega, by omega⟩) ?_
  rw [show [c0, c1, c2, c3, c4, c5] ++ [c6] = [c0, c1, c2, c3, c4, c5, c6] from rfl]
  exact jr_v jm_236 (show jw_cd cd_236 44 = some (.lreturn) by decide +kernel) rfl
def wd0 : List Int := [108, 101, 110, 103, 116, 104]
theorem wd0_t : tx wd0 := ⟨by decide, by decide⟩
theorem wd0_p : pk [108, 101, 110, 103, 116, 104, 0] = pk wd0 := by decide
def wd1 : List Int := [107, 101, 121, 115]
theorem wd1_t : tx wd1 := ⟨by decide, by decide⟩
theorem wd1_p : pk [107, 101, 121, 115, 0, 0, 0] = pk wd1 := by decide
def wd2 : List Int := [118, 97, 108, 117, 101, 115]
theorem wd2_t : tx wd2 := ⟨by decide, by decide⟩
theorem wd2_p : pk [118, 97, 108, 117, 101, 115, 0] = pk wd2 := by decide
def wd3 : List Int := [115, 111, 114, 116]
theorem wd3_t : tx wd3 := ⟨by decide, by decide⟩
theorem wd3_p : pk [115, 111, 114, 116, 0, 0, 0] = pk wd3 := by decide
def wd4 : List Int := [114, 101, 118, 101, 114, 115, 101]
theorem wd4_t : tx wd4 := ⟨by decide, by decide⟩
theorem wd4_p : pk [114, 101, 118, 101, 114, 115, 101] = pk wd4 := by decide
def wd5 : List Int := [115, 117, 109]
theorem wd5_t : tx wd5 := ⟨by decide, by decide⟩
theorem wd5_p : pk [115, 117, 109, 0, 0, 0, 0] = pk wd5 := by decide
def wd6 : List Int := [109, 97, 120]
theorem wd6_t : tx wd6 := ⟨by decide, by decide⟩
theorem wd6_p : pk [109, 97, 120, 0, 0, 0, 0] = pk wd6 := by decide
def wd7 : List Int := [109, 105, 110]
theorem wd7_t : tx wd7 := ⟨by decide, by decide⟩
theorem wd7_p : pk [109, 105, 110, 0, 0, 0, 0] = pk wd7 := by decide
def wd8 : List Int := [116, 121, 112, 101]
theorem wd8_t : tx wd8 := ⟨by decide, by decide⟩
theorem wd8_p : pk [116, 121, 112, 101, 0, 0, 0] = pk wd8 := by decide
theorem wd_cmp {s w : List Int} (hs : tx s) (hw : tx w) : (s = w → (if pk s < pk w then (-1 : Int) else if pk s = pk w then 0 else 1) = 0) ∧ (¬ s = w → ¬ (if pk s < pk w then (-1 : Int) else if pk s = pk w then 0 else 1) = 0) ∧ (if pk s < pk w then (-1 : Int) else if pk s = pk w then 0 else 1) ≤ 1 ∧ -1 ≤ (if pk s < pk w then (-1 : Int) else if pk s = pk w then 0 else 1) := by
  have h := pk_inj hs hw
  by_cases h2 : pk s = pk w
  · have e := h.mp h2
    rw [if_neg (by omega), if_pos h2]
    exact ⟨fun _ => rfl, fun z => absurd e z, by omega, by omega⟩
  · have e : ¬ s = w := fun z => h2 (h.mpr z)
    by_cases h1 : pk s < pk w
    · rw [if_pos h1]
      exact ⟨fun z => absurd z e, fun _ => by omega, by omega, by omega⟩
    · rw [if_neg h1, if_neg h2]
      exact ⟨fun z => absurd z e, fun _ => by omega, by omega, by omega⟩
def wg1 (s : List Int) : Int := if s = wd0 then 0 else if s = wd1 then 1 else if s = wd2 then 2 else if s = wd3 then 3 else -1
def wg2 (s : List Int) : Int := if s = wd4 then 4 else if s = wd5 then 5 else if s = wd6 then 6 else if s = wd7 then 7 else -1
def wordS (s : List Int) : Int := if ¬ wg1 s = -1 then wg1 s else if ¬ wg2 s = -1 then wg2 s else if s = wd8 then 8 else -1
theorem jn_wo1 {β : Bool} {d : Nat} {h : jx_H} {σ : mS} (hl : 49 ≤ h.length) {s : List Int} (hs : tx s) : ∀ res, jx_r (jz β) jw_M (d + 2) 235 (98, [some (.long (Int64.ofInt (pk s))), none, some (.int (Int32.ofInt (wg1 s))), none], [], ml_mk h σ) res → jx_r (jz β) jw_M (d + 2) 235 (0, [some (.long (Int64.ofInt (pk s))), none, none, none], [], ml_mk h σ) res := by
  intro res kk
  by_cases h0 : s = wd0
  · rw [show wg1 s = 0 from by unfold wg1; rw [if_pos h0]] at kk
    refine jr_1 jm_235 (show jw_cd cd_235 0 = some (.lload_n 0) by decide +kernel) rfl ?_
    refine jr_1 jm_235 (show jw_cd cd_235 1 = some (.bipush 108) by decide +kernel) (mt_bi (by decide)) ?_
    refine jr_1 jm_235 (show jw_cd cd_235 3 = some (.bipush 101) by decide +kernel) (mt_bi (by decide)) ?_
    refine jr_1 jm_235 (show jw_cd cd_235 5 = some (.bipush 110) by decide +kernel) (mt_bi (by decide)) ?_
    refine jr_1 jm_235 (show jw_cd cd_235 7 = some (.bipush 103) by decide +kernel) (mt_bi (by decide)) ?_
    refine jr_1 jm_235 (show jw_cd cd_235 9 = some (.bipush 116) by decide +kernel) (mt_bi (by decide)) ?_
    refine jr_1 jm_235 (show jw_cd cd_235 11 = some (.bipush 104) by decide +kernel) (mt_bi (by decide)) ?_
    refine jr_1 jm_235 (show jw_cd cd_235 13 = some (.iconst 0) by decide +kernel) rfl ?_
    refine jr_c jm_235 (show jw_cd cd_235 14 = some (.invokestatic 225) by decide +kernel) (mc_s (n := 7) (m2 := 236) (bs := [.int (Int32.ofInt (108)), .int (Int32.ofInt (101)), .int (Int32.ofInt (110)), .int (Int32.ofInt (103)), .int (Int32.ofInt (116)), .int (Int32.ofInt (104)), .int (Int32.ofInt (0))]) (r := [.long (Int64.ofInt (pk s))]) (by decide) (show jw_find jw_csT 34 225 = some (236, 7) by decide +kernel) rfl rfl rfl) jm_236 ⟨Nat.le_of_ble_eq_true rfl, by decide⟩ (jn_packed hl ⟨by decide, by decide⟩ ⟨by decide, by decide⟩ ⟨by decide, by decide⟩ ⟨by decide, by decide⟩ ⟨by decide, by decide⟩ ⟨by decide, by decide⟩ ⟨by decide, by decide⟩) ?_
    rw [wd0_p]
    refine jr_1 jm_235 (show jw_cd cd_235 17 = some (.lcmp) by decide +kernel) (mt_cmp (r := (if pk s < pk wd0 then (-1 : Int) else if pk s = pk wd0 then 0 else 1)) ⟨by have := (pk_b hs).1; omega, by have := (pk_b hs).2; omega⟩ ⟨by have := (pk_b wd0_t).1; omega, by have := (pk_b wd0_t).2; omega⟩ rfl) ?_
    refine jr_1 jm_235 (show jw_cd cd_235 18 = some (.ifCond .ne 7) by decide +kernel) (mz_f (q := .ne) (a := (if pk s < pk wd0 then (-1 : Int) else if pk s = pk wd0 then 0 else 1)) (fun z => z ((wd_cmp hs wd0_t).1 h0)) ⟨by have := (wd_cmp hs wd0_t).2.2.2; omega, by have := (wd_cmp hs wd0_t).2.2.1; omega⟩ (by decide)) ?_
    refine jr_1 jm_235 (show jw_cd cd_235 21 = some (.iconst 0) by decide +kernel) rfl ?_
    refine jr_1 jm_235 (show jw_cd cd_235 22 = some (.goto 75) by decide +kernel) (ju_go (t := 97) (by decide)) ?_
    refine jr_1 jm_235 (F2 := (98, [some (.long (Int64.ofInt (pk s))), none, some (.int (Int32.ofInt (0))), none], [], ml_mk h σ)) (show jw_cd cd_235 97 = some (.istore_n 2) by decide +kernel) rfl ?_
    exact kk
  by_cases h1 : s = wd1
  · rw [show wg1 s = 1 from by unfold wg1; rw [if_neg h0]; rw [if_pos h1]] at kk
    refine jr_1 jm_235 (show jw_cd cd_235 0 = some (.lload_n 0) by decide +kernel) rfl ?_
    refine jr_1 jm_235 (show jw_cd cd_235 1 = some (.bipush 108) by decide +kernel) (mt_bi (by decide)) ?_
    refine jr_1 jm_235 (show jw_cd cd_235 3 = some (.bipush 101) by decide +kernel) (mt_bi (by decide)) ?_
    refine jr_1 jm_235 (show jw_cd cd_235 5 = some (.bipush 110) by decide +kernel) (mt_bi (by decide)) ?_
    refine jr_1 jm_235 (show jw_cd cd_235 7 = some (.bipush 103) by decide +kernel) (mt_bi (by decide)) ?_
    refine jr_1 jm_235 (show jw_cd cd_235 9 = some (.bipush 116) by decide +kernel) (mt_bi (by decide)) ?_
    refine jr_1 jm_235 (show jw_cd cd_235 11 = some (.bipush 104) by decide +kernel) (mt_bi (by decide)) ?_
    refine jr_1 jm_235 (show jw_cd cd_235 13 = some (.iconst 0) by decide +kernel) rfl ?_
    refine jr_c jm_235 (show jw_cd cd_235 14 = some (.invokestatic 225) by decide +kernel) (mc_s (n := 7) (m2 := 236) (bs := [.int (Int32.ofInt (108)), .int (Int32.ofInt (101)), .int (Int32.ofInt (110)), .int (Int32.ofInt (103)), .int (Int32.ofInt (116)), .int (Int32.ofInt (104)), .int (Int32.ofInt (0))]) (r := [.long (Int64.ofInt (pk s))]) (by decide) (show jw_find jw_csT 34 225 = some (236, 7) by decide +kernel) rfl rfl rfl) jm_236 ⟨Nat.le_of_ble_eq_true rfl, by decide⟩ (jn_packed hl ⟨by decide, by decide⟩ ⟨by decide, by decide⟩ ⟨by decide, by decide⟩ ⟨by decide, by decide⟩ ⟨by decide, by decide⟩ ⟨by decide, by decide⟩ ⟨by decide, by decide⟩) ?_
    rw [wd0_p]
    refine jr_1 jm_235 (show jw_cd cd_235 17 = some (.lcmp) by decide +kernel) (mt_cmp (r := (if pk s < pk wd0 then (-1 : Int) else if pk s = pk wd0 then 0 else 1)) ⟨by have := (pk_b hs).1; omega, by have := (pk_b hs).2; omega⟩ ⟨by have := (pk_b wd0_t).1; omega, by have := (pk_b wd0_t).2; omega⟩ rfl) ?_
    refine jr_1 jm_235 (show jw_cd cd_235 18 = some (.ifCond .ne 7) by decide +kernel) (mz_t (q := .ne) (a := (if pk s < pk wd0 then (-1 : Int) else if pk s = pk wd0 then 0 else 1)) (t := 25) ((wd_cmp hs wd0_t).2.1 h0) ⟨by have := (wd_cmp hs wd0_t).2.2.2; omega, by have := (wd_cmp hs wd0_t).2.2.1; omega⟩ (by decide) (by decide)) ?_
    refine jr_1 jm_235 (show jw_cd cd_235 25 = some (.lload_n 0) by decide +kernel) rfl ?_
    refine jr_1 jm_235 (show jw_cd cd_235 26 = some (.bipush 107) by decide +kernel) (mt_bi (by decide)) ?_
    refine jr_1 jm_235 (show jw_cd cd_235 28 = some (.bipush 101) by decide +kernel) (mt_bi (by decide)) ?_
    refine jr_1 jm_235 (show jw_cd cd_235 30 = some (.bipush 121) by decide +kernel) (mt_bi (by decide)) ?_
    refine jr_1 jm_235 (show jw_cd cd_235 32 = some (.bipush 115) by decide +kernel) (mt_bi (by decide)) ?_
    refine jr_1 jm_235 (show jw_cd cd_235 34 = some (.iconst 0) by decide +kernel) rfl ?_
    refine jr_1 jm_235 (show jw_cd cd_235 35 = some (.iconst 0) by decide +kernel) rfl ?_
    refine jr_1 jm_235 (show jw_cd cd_235 36 = some (.iconst 0) by decide +kernel) rfl ?_
    refine jr_c jm_235 (show jw_cd cd_235 37 = some (.invokestatic 225) by decide +kernel) (mc_s (n := 7) (m2 := 236) (bs := [.int (Int32.ofInt (107)), .int (Int32.ofInt (101)), .int (Int32.ofInt (121)), .int (Int32.ofInt (115)), .int (Int32.ofInt (0)), .int (Int32.ofInt (0)), .int (Int32.ofInt (0))]) (r := [.long (Int64.ofInt (pk s))]) (by decide) (show jw_find jw_csT 34 225 = some (236, 7) by decide +kernel) rfl rfl rfl) jm_236 ⟨Nat.le_of_ble_eq_true rfl, by decide⟩ (jn_packed hl ⟨by decide, by decide⟩ ⟨by decide, by decide⟩ ⟨by decide, by decide⟩ ⟨by decide, by decide⟩ ⟨by decide, by decide⟩ ⟨by decide, by decide⟩ ⟨by decide, by decide⟩) ?_
    rw [wd1_p]
    refine jr_1 jm_235 (show jw_cd cd_235 40 = some (.lcmp) by decide +kernel) (mt_cmp (r := (if pk s < pk wd1 then (-1 : Int) else if pk s = pk wd1 then 0 else 1)) ⟨by have := (pk_b hs).1; omega, by have := (pk_b hs).2; omega⟩ ⟨by have := (pk_b wd1_t).1; omega, by have := (pk_b wd1_t).2; omega⟩ rfl) ?_
    refine jr_1 jm_235 (show jw_cd cd_235 41 = some (.ifCond .ne 7) by decide +kernel) (mz_f (q := .ne) (a := (if pk s < pk wd1 then (-1 : Int) else if pk s = pk wd1 then 0 else 1)) (fun z => z ((wd_cmp hs wd1_t).1 h1)) ⟨by have := (wd_cmp hs wd1_t).2.2.2; omega, by have := (wd_cmp hs wd1_t).2.2.1; omega⟩ (by decide)) ?_
    refine jr_1 jm_235 (show jw_cd cd_235 44 = some (.iconst 1) by decide +kernel) rfl ?_
    refine jr_1 jm_235 (show jw_cd cd_235 45 = some (.goto 52) by decide +kernel) (ju_go (t := 97) (by decide)) ?_
    refine jr_1 jm_235 (F2 := (98, [some (.long (Int64.ofInt (pk s))), none, some (.int (Int32.ofInt (1))), none], [], ml_mk h σ)) (show jw_cd cd_235 97 = some (.istore_n 2) by decide +kernel) rfl ?_
    exact kk
  by_cases h2 : s = wd2
  · rw [show wg1 s = 2 from by unfold wg1; rw [if_neg h0]; rw [if_neg h1]; rw [if_pos h2]] at kk
    refine jr_1 jm_235 (show jw_cd cd_235 0 = some (.lload_n 0) by decide +kernel) rfl ?_
    refine jr_1 jm_235 (show jw_cd cd_235 1 = some (.bipush 108) by decide +kernel) (mt_bi (by decide)) ?_
    refine jr_1 jm_235 (show jw_cd cd_235 3 = some (.bipush 101) by decide +kernel) (mt_bi (by decide)) ?_
    refine jr_1 jm_235 (show jw_cd cd_235 5 = some (.bipush 110) by decide +kernel) (mt_bi (by decide)) ?_
    refine jr_1 jm_235 (show jw_cd cd_235 7 = some (.bipush 103) by decide +kernel) (mt_bi (by decide)) ?_
    refine jr_1 jm_235 (show jw_cd cd_235 9 = some (.bipush 116) by decide +kernel) (mt_bi (by decide)) ?_
    refine jr_1 jm_235 (show jw_cd cd_235 11 = some (.bipush 104) by decide +kernel) (mt_bi (by decide)) ?_
    refine jr_1 jm_235 (show jw_cd cd_235 13 = some (.iconst 0) by decide +kernel) rfl ?_
    refine jr_c jm_235 (show jw_cd cd_235 14 = some (.invokestatic 225) by decide +kernel) (mc_s (n := 7) (m2 := 236) (bs := [.int (Int32.ofInt (108)), .int (Int32.ofInt (101)), .int (Int32.ofInt (110)), .int (Int32.ofInt (103)), .int (Int32.ofInt (116)), .int (Int32.ofInt (104)), .int (Int32.ofInt (0))]) (r := [.long (Int64.ofInt (pk s))]) (by decide) (show jw_find jw_csT 34 225 = some (236, 7) by decide +kernel) rfl rfl rfl) jm_236 ⟨Nat.le_of_ble_eq_true rfl, by decide⟩ (jn_packed hl ⟨by decide, by decide⟩ ⟨by decide, by decide⟩ ⟨by decide, by decide⟩ ⟨by decide, by decide⟩ ⟨by decide, by decide⟩ ⟨by decide, by decide⟩ ⟨by decide, by decide⟩) ?_
    rw [wd0_p]
    refine jr_1 jm_235 (show jw_cd cd_235 17 = some (.lcmp) by decide +kernel) (mt_cmp (r := (if pk s < pk wd0 then (-1 : Int) else if pk s = pk wd0 then 0 else 1)) ⟨by have := (pk_b hs).1; omega, by have := (pk_b hs).2; omega⟩ ⟨by have := (pk_b wd0_t).1; omega, by have := (pk_b wd0_t).2; omega⟩ rfl) ?_
    refine jr_1 jm_235 (show jw_cd cd_235 18 = some (.ifCond .ne 7) by decide +kernel) (mz_t (q := .ne) (a := (if pk s < pk wd0 then (-1 : Int) else if pk s = pk wd0 then 0 else 1)) (t := 25) ((wd_cmp hs wd0_t).2.1 h0) ⟨by have := (wd_cmp hs wd0_t).2.2.2; omega, by have := (wd_cmp hs wd0_t).2.2.1; omega⟩ (by decide) (by decide)) ?_
    refine jr_1 jm_235 (show jw_cd cd_235 25 = some (.lload_n 0) by decide +kernel) rfl ?_
    refine jr_1 jm_235 (show jw_cd cd_235 26 = some (.bipush 107) by decide +kernel) (mt_bi (by decide)) ?_
    refine jr_1 jm_235 (show jw_cd cd_235 28 = some (.bipush 101) by decide +kernel) (mt_bi (by decide)) ?_
    refine jr_1 jm_235 (show jw_cd cd_235 30 = some (.bipush 121) by decide +kernel) (mt_bi (by decide)) ?_
    refine jr_1 jm_235 (show jw_cd cd_235 32 = some (.bipush 115) by decide +kernel) (mt_bi (by decide)) ?_
    refine jr_1 jm_235 (show jw_cd cd_235 34 = some (.iconst 0) by decide +kernel) rfl ?_
    refine jr_1 jm_235 (show jw_cd cd_235 35 = some (.iconst 0) by decide +kernel) rfl ?_
    refine jr_1 jm_235 (show jw_cd cd_235 36 = some (.iconst 0) by decide +kernel) rfl ?_
    refine jr_c jm_235 (show jw_cd cd_235 37 = some (.invokestatic 225) by decide +kernel) (mc_s (n := 7) (m2 := 236) (bs := [.int (Int32.ofInt (107)), .int (Int32.ofInt (101)), .int (Int32.ofInt (121)), .int (Int32.ofInt (115)), .int (Int32.ofInt (0)), .int (Int32.ofInt (0)), .int (Int32.ofInt (0))]) (r := [.long (Int64.ofInt (pk s))]) (by decide) (show jw_find jw_csT 34 225 = some (236, 7) by decide +kernel) rfl rfl rfl) jm_236 ⟨Nat.le_of_ble_eq_true rfl, by decide⟩ (jn_packed hl ⟨by decide, by decide⟩ ⟨by decide, by decide⟩ ⟨by decide, by decide⟩ ⟨by decide, by decide⟩ ⟨by decide, by decide⟩ ⟨by decide, by decide⟩ ⟨by decide, by decide⟩) ?_
    rw [wd1_p]
    refine jr_1 jm_235 (show jw_cd cd_235 40 = some (.lcmp) by decide +kernel) (mt_cmp (r := (if pk s < pk wd1 then (-1 : Int) else if pk s = pk wd1 then 0 else 1)) ⟨by have := (pk_b hs).1; omega, by have := (pk_b hs).2; omega⟩ ⟨by have := (pk_b wd1_t).1; omega, by have := (pk_b wd1_t).2; omega⟩ rfl) ?_
    refine jr_1 jm_235 (show jw_cd cd_235 41 = some (.ifCond .ne 7) by decide +kernel) (mz_t (q := .ne) (a := (if pk s < pk wd1 then (-1 : Int) else if pk s = pk wd1 then 0 else 1)) (t := 48) ((wd_cmp hs wd1_t).2.1 h1) ⟨by have := (wd_cmp hs wd1_t).2.2.2; omega, by have := (wd_cmp hs wd1_t).2.2.1; omega⟩ (by decide) (by decide)) ?_
    refine jr_1 jm_235 (show jw_cd cd_235 48 = some (.lload_n 0) by decide +kernel) rfl ?_
    refine jr_1 jm_235 (show jw_cd cd_235 49 = some (.bipush 118) by decide +kernel) (mt_bi (by decide)) ?_
    refine jr_1 jm_235 (show jw_cd cd_235 51 = some (.bipush 97) by decide +kernel) (mt_bi (by decide)) ?_
    refine jr_1 jm_235 (show jw_cd cd_235 53 = some (.bipush 108) by decide +kernel) (mt_bi (by decide)) ?_
    refine jr_1 jm_235 (show jw_cd cd_235 55 = some (.bipush 117) by decide +kernel) (mt_bi (by decide)) ?_
    refine jr_1 jm_235 (show jw_cd cd_235 57 = some (.bipush 101) by decide +kernel) (mt_bi (by decide)) ?_
    refine jr_1 jm_235 (show jw_cd cd_235 59 = some (.bipush 115) by decide +kernel) (mt_bi (by decide)) ?_
    refine jr_1 jm_235 (show jw_cd cd_235 61 = some (.iconst 0) by decide +kernel) rfl ?_
    refine jr_c jm_235 (show jw_cd cd_235 62 = some (.invokestatic 225) by decide +kernel) (mc_s (n := 7) (m2 := 236) (bs := [.int (Int32.ofInt (118)), .int (Int32.ofInt (97)), .int (Int32.ofInt (108)), .int (Int32.ofInt (117)), .int (Int32.ofInt (101)), .int (Int32.ofInt (115)), .int (Int32.ofInt (0))]) (r := [.long (Int64.ofInt (pk s))]) (by decide) (show jw_find jw_csT 34 225 = some (236, 7) by decide +kernel) rfl rfl rfl) jm_236 ⟨Nat.le_of_ble_eq_true rfl, by decide⟩ (jn_packed hl ⟨by decide, by decide⟩ ⟨by decide, by decide⟩ ⟨by decide, by decide⟩ ⟨by decide, by decide⟩ ⟨by decide, by decide⟩ ⟨by decide, by decide⟩ ⟨by decide, by decide⟩) ?_
    rw [wd2_p]
    refine jr_1 jm_235 (show jw_cd cd_235 65 = some (.lcmp) by decide +kernel) (mt_cmp (r := (if pk s < pk wd2 then (-1 : Int) else if pk s = pk wd2 then 0 else 1)) ⟨by have := (pk_b hs).1; omega, by have := (pk_b hs).2; omega⟩ ⟨by have := (pk_b wd2_t).1; omega, by have := (pk_b wd2_t).2; omega⟩ rfl) ?_
    refine jr_1 jm_235 (show jw_cd cd_235 66 = some (.ifCond .ne 7) by decide +kernel) (mz_f (q := .ne) (a := (if pk s < pk wd2 then (-1 : Int) else if pk s = pk wd2 then 0 else 1)) (fun z => z ((wd_cmp hs wd2_t).1 h2)) ⟨by have := (wd_cmp hs wd2_t).2.2.2; omega, by have := (wd_cmp hs wd2_t).2.2.1; omega⟩ (by decide)) ?_
    refine jr_1 jm_235 (show jw_cd cd_235 69 = some (.iconst 2) by decide +kernel) rfl ?_
    refine jr_1 jm_235 (show jw_cd cd_235 70 = some (.goto 27) by decide +kernel) (ju_go (t := 97) (by decide)) ?_
    refine jr_1 jm_235 (F2 := (98, [some (.long (Int64.ofInt (pk s))), none, some (.int (Int32.ofInt (2))), none], [], ml_mk h σ)) (show jw_cd cd_235 97 = some (.istore_n 2) by decide +kernel) rfl ?_
    exact kk
  by_cases h3 : s = wd3
  · rw [show wg1 s = 3 from by unfold wg1; rw [if_neg h0]; rw [if_neg h1]; rw [if_neg h2]; rw [if_pos h3]] at kk
    refine jr_1 jm_235 (show jw_cd cd_235 0 = some (.lload_n 0) by decide +kernel) rfl ?_
    refine jr_1 jm_235 (show jw_cd cd_235 1 = some (.bipush 108) by decide +kernel) (mt_bi (by decide)) ?_
    refine jr_1 jm_235 (show jw_cd cd_235 3 = some (.bipush 101) by decide +kernel) (mt_bi (by decide)) ?_
    refine jr_1 jm_235 (show jw_cd cd_235 5 = some (.bipush 110) by decide +kernel) (mt_bi (by decide)) ?_
    refine jr_1 jm_235 (show jw_cd cd_235 7 = some (.bipush 103) by decide +kernel) (mt_bi (by decide)) ?_
    refine jr_1 jm_235 (show jw_cd cd_235 9 = some (.bipush 116) by decide +kernel) (mt_bi (by decide)) ?_
    refine jr_1 jm_235 (show jw_cd cd_235 11 = some (.bipush 104) by decide +kernel) (mt_bi (by decide)) ?_
    refine jr_1 jm_235 (show jw_cd cd_235 13 = some (.iconst 0) by decide +kernel) rfl ?_
    refine jr_c jm_235 (show jw_cd cd_235 14 = some (.invokestatic 225) by decide +kernel) (mc_s (n := 7) (m2 := 236) (bs := [.int (Int32.ofInt (108)), .int (Int32.ofInt (101)), .int (Int32.ofInt (110)), .int (Int32.ofInt (103)), .int (Int32.ofInt (116)), .int (Int32.ofInt (104)), .int (Int32.ofInt (0))]) (r := [.long (Int64.ofInt (pk s))]) (by decide) (show jw_find jw_csT 34 225 = some (236, 7) by decide +kernel) rfl rfl rfl) jm_236 ⟨Nat.le_of_ble_eq_true rfl, by decide⟩ (jn_packed hl ⟨by decide, by decide⟩ ⟨by decide, by decide⟩ ⟨by decide, by decide⟩ ⟨by decide, by decide⟩ ⟨by decide, by decide⟩ ⟨by decide, by decide⟩ ⟨by decide, by decide⟩) ?_
    rw [wd0_p]
    refine jr_1 jm_235 (show jw_cd cd_235 17 = some (.lcmp) by decide +kernel) (mt_cmp (r := (if pk s < pk wd0 then (-1 : Int) else if pk s = pk wd0 then 0 else 1)) ⟨by have := (pk_b hs).1; omega, by have := (pk_b hs).2; omega⟩ ⟨by have := (pk_b wd0_t).1; omega, by have := (pk_b wd0_t).2; omega⟩ rfl) ?_
    refine jr_1 jm_235 (show jw_cd cd_235 18 = some (.ifCond .ne 7) by decide +kernel) (mz_t (q := .ne) (a := (if pk s < pk wd0 then (-1 : Int) else if pk s = pk wd0 then 0 else 1)) (t := 25) ((wd_cmp hs wd0_t).2.1 h0) ⟨by have := (wd_cmp hs wd0_t).2.2.2; omega, by have := (wd_cmp hs wd0_t).2.2.1; omega⟩ (by decide) (by decide)) ?_
    refine jr_1 jm_235 (show jw_cd cd_235 25 = some (.lload_n 0) by decide +kernel) rfl ?_
    refine jr_1 jm_235 (show jw_cd cd_235 26 = some (.bipush 107) by decide +kernel) (mt_bi (by decide)) ?_
    refine jr_1 jm_235 (show jw_cd cd_235 28 = some (.bipush 101) by decide +kernel) (mt_bi (by decide)) ?_
    refine jr_1 jm_235 (show jw_cd cd_235 30 = some (.bipush 121) by decide +kernel) (mt_bi (by decide)) ?_
    refine jr_1 jm_235 (show jw_cd cd_235 32 = some (.bipush 115) by decide +kernel) (mt_bi (by decide)) ?_
    refine jr_1 jm_235 (show jw_cd cd_235 34 = some (.iconst 0) by decide +kernel) rfl ?_
    refine jr_1 jm_235 (show jw_cd cd_235 35 = some (.iconst 0) by decide +kernel) rfl ?_
    refine jr_1 jm_235 (show jw_cd cd_235 36 = some (.iconst 0) by decide +kernel) rfl ?_
    refine jr_c jm_235 (show jw_cd cd_235 37 = some (.invokestatic 225) by decide +kernel) (mc_s (n := 7) (m2 := 236) (bs := [.int (Int32.ofInt (107)), .int (Int32.ofInt (101)), .int (Int32.ofInt (121)), .int (Int32.ofInt (115)), .int (Int32.ofInt (0)), .int (Int32.ofInt (0)), .int (Int32.ofInt (0))]) (r := [.long (Int64.ofInt (pk s))]) (by decide) (show jw_find jw_csT 34 225 = some (236, 7) by decide +kernel) rfl rfl rfl) jm_236 ⟨Nat.le_of_ble_eq_true rfl, by decide⟩ (jn_packed hl ⟨by decide, by decide⟩ ⟨by decide, by decide⟩ ⟨by decide, by decide⟩ ⟨by decide, by decide⟩ ⟨by decide, by decide⟩ ⟨by decide, by decide⟩ ⟨by decide, by decide⟩) ?_
    rw [wd1_p]
    refine jr_1 jm_235 (show jw_cd cd_235 40 = some (.lcmp) by decide +kernel) (mt_cmp (r := (if pk s < pk wd1 then (-1 : Int) else if pk s = pk wd1 then 0 else 1)) ⟨by have := (pk_b hs).1; omega, by have := (pk_b hs).2; omega⟩ ⟨by have := (pk_b wd1_t).1; omega, by have := (pk_b wd1_t).2; omega⟩ rfl) ?_
    refine jr_1 jm_235 (show jw_cd cd_235 41 = some (.ifCond .ne 7) by decide +kernel) (mz_t (q := .ne) (a := (if pk s < pk wd1 then (-1 : Int) else if pk s = pk wd1 then 0 else 1)) (t := 48) ((wd_cmp hs wd1_t).2.1 h1) ⟨by have := (wd_cmp hs wd1_t).2.2.2; omega, by have := (wd_cmp hs wd1_t).2.2.1; omega⟩ (by decide) (by decide)) ?_
    refine jr_1 jm_235 (show jw_cd cd_235 48 = some (.lload_n 0) by decide +kernel) rfl ?_
    refine jr_1 jm_235 (show jw_cd cd_235 49 = some (.bipush 118) by decide +kernel) (mt_bi (by decide)) ?_
    refine jr_1 jm_235 (show jw_cd cd_235 51 = some (.bipush 97) by decide +kernel) (mt_bi (by decide)) ?_
    refine jr_1 jm_235 (show jw_cd cd_235 53 = some (.bipush 108) by decide +kernel) (mt_bi (by decide)) ?_
    refine jr_1 jm_235 (show jw_cd cd_235 55 = some (.bipush 117) by decide +kernel) (mt_bi (by decide)) ?_
    refine jr_1 jm_235 (show jw_cd cd_235 57 = some (.bipush 101) by decide +kernel) (mt_bi (by decide)) ?_
    refine jr_1 jm_235 (show jw_cd cd_235 59 = some (.bipush 115) by decide +kernel) (mt_bi (by decide)) ?_
    refine jr_1 jm_235 (show jw_cd cd_235 61 = some (.iconst 0) by decide +kernel) rfl ?_
    refine jr_c jm_235 (show jw_cd cd_235 62 = some (.invokestatic 225) by decide +kernel) (mc_s (n := 7) (m2 := 236) (bs := [.int (Int32.ofInt (118)), .int (Int32.ofInt (97)), .int (Int32.ofInt (108)), .int (Int32.ofInt (117)), .int (Int32.ofInt (101)), .int (Int32.ofInt (115)), .int (Int32.ofInt (0))]) (r := [.long (Int64.ofInt (pk s))]) (by decide) (show jw_find jw_csT 34 225 = some (236, 7) by decide +kernel) rfl rfl rfl) jm_236 ⟨Nat.le_of_ble_eq_true rfl, by decide⟩ (jn_packed hl ⟨by decide, by decide⟩ ⟨by decide, by decide⟩ ⟨by decide, by decide⟩ ⟨by decide, by decide⟩ ⟨by decide, by decide⟩ ⟨by decide, by decide⟩ ⟨by decide, by decide⟩) ?_
    rw [wd2_p]
    refine jr_1 jm_235 (show jw_cd cd_235 65 = some (.lcmp) by decide +kernel) (mt_cmp (r := (if pk s < pk wd2 then (-1 : Int) else if pk s = pk wd2 then 0 else 1)) ⟨by have := (pk_b hs).1; omega, by have := (pk_b hs).2; omega⟩ ⟨by have := (pk_b wd2_t).1; omega, by have := (pk_b wd2_t).2; omega⟩ rfl) ?_
    refine jr_1 jm_235 (show jw_cd cd_235 66 = some (.ifCond .ne 7) by decide +kernel) (mz_t (q := .ne) (a := (if pk s < pk wd2 then (-1 : Int) else if pk s = pk wd2 then 0 else 1)) (t := 73) ((wd_cmp hs wd2_t).2.1 h2) ⟨by have := (wd_cmp hs wd2_t).2.2.2; omega, by have := (wd_cmp hs wd2_t).2.2.1; omega⟩ (by decide) (by decide)) ?_
    refine jr_1 jm_235 (show jw_cd cd_235 73 = some (.lload_n 0) by decide +kernel) rfl ?_
    refine jr_1 jm_235 (show jw_cd cd_235 74 = some (.bipush 115) by decide +kernel) (mt_bi (by decide)) ?_
    refine jr_1 jm_235 (show jw_cd cd_235 76 = some (.bipush 111) by decide +kernel) (mt_bi (by decide)) ?_
    refine jr_1 jm_235 (show jw_cd cd_235 78 = some (.bipush 114) by decide +kernel) (mt_bi (by decide)) ?_
    refine jr_1 jm_235 (show jw_cd cd_235 80 = some (.bipush 116) by decide +kernel) (mt_bi (by decide)) ?_
    refine jr_1 jm_235 (show jw_cd cd_235 82 = some (.iconst 0) by decide +kernel) rfl ?_
    refine jr_1 jm_235 (show jw_cd cd_235 83 = some (.iconst 0) by decide +kernel) rfl ?_
    refine jr_1 jm_235 (show jw_cd cd_235 84 = some (.iconst 0) by decide +kernel) rfl ?_
    refine jr_c jm_235 (show jw_cd cd_235 85 = some (.invokestatic 225) by decide +kernel) (mc_s (n := 7) (m2 := 236) (bs := [.int (Int32.ofInt (115)), .int (Int32.ofInt (111)), .int (Int32.ofInt (114)), .int (Int32.ofInt (116)), .int (Int32.ofInt (0)), .int (Int32.ofInt (0)), .int (Int32.ofInt (0))]) (r := [.long (Int64.ofInt (pk s))]) (by decide) (show jw_find jw_csT 34 225 = some (236, 7) by decide +kernel) rfl rfl rfl) jm_236 ⟨Nat.le_of_ble_eq_true rfl, by decide⟩ (jn_packed hl ⟨by decide, by decide⟩ ⟨by decide, by decide⟩ ⟨by decide, by decide⟩ ⟨by decide, by decide⟩ ⟨by decide, by decide⟩ ⟨by decide, by decide⟩ ⟨by decide, by decide⟩) ?_
    rw [wd3_p]
    refine jr_1 jm_235 (show jw_cd cd_235 88 = some (.lcmp) by decide +kernel) (mt_cmp (r := (if pk s < pk wd3 then (-1 : Int) else if pk s = pk wd3 then 0 else 1)) ⟨by have := (pk_b hs).1; omega, by have := (pk_b hs).2; omega⟩ ⟨by have := (pk_b wd3_t).1; omega, by have := (pk_b wd3_t).2; omega⟩ rfl) ?_
    refine jr_1 jm_235 (show jw_cd cd_235 89 = some (.ifCond .ne 7) by decide +kernel) (mz_f (q := .ne) (a := (if pk s < pk wd3 then (-1 : Int) else if pk s = pk wd3 then 0 else 1)) (fun z => z ((wd_cmp hs wd3_t).1 h3)) ⟨by have := (wd_cmp hs wd3_t).2.2.2; omega, by have := (wd_cmp hs wd3_t).2.2.1; omega⟩ (by decide)) ?_
    refine jr_1 jm_235 (show jw_cd cd_235 92 = some (.iconst 3) by decide +kernel) rfl ?_
    refine jr_1 jm_235 (show jw_cd cd_235 93 = some (.goto 4) by decide +kernel) (ju_go (t := 97) (by decide)) ?_
    refine jr_1 jm_235 (F2 := (98, [some (.long (Int64.ofInt (pk s))), none, some (.int (Int32.ofInt (3))), none], [], ml_mk h σ)) (show jw_cd cd_235 97 = some (.istore_n 2) by decide +kernel) rfl ?_
    exact kk
  · rw [show wg1 s = -1 from by unfold wg1; rw [if_neg h0]; rw [if_neg h1]; rw [if_neg h2]; rw [if_neg h3]] at kk
    refine jr_1 jm_235 (show jw_cd cd_235 0 = some (.lload_n 0) by decide +kernel) rfl ?_
    refine jr_1 jm_235 (show jw_cd cd_235 1 = some (.bipush 108) by decide +kernel) (mt_bi (by decide)) ?_
    refine jr_1 jm_235 (show jw_cd cd_235 3 = some (.bipush 101) by decide +kernel) (mt_bi (by decide)) ?_
    refine jr_1 jm_235 (show jw_cd cd_235 5 = some (.bipush 110) by decide +kernel) (mt_bi (by decide)) ?_
    refine jr_1 jm_235 (show jw_cd cd_235 7 = some (.bipush 103) by decide +kernel) (mt_bi (by decide)) ?_
    refine jr_1 jm_235 (show jw_cd cd_235 9 = some (.bipush 116) by decide +kernel) (mt_bi (by decide)) ?_
    refine jr_1 jm_235 (show jw_cd cd_235 11 = some (.bipush 104) by decide +kernel) (mt_bi (by decide)) ?_
    refine jr_1 jm_235 (show jw_cd cd_235 13 = some (.iconst 0) by decide +kernel) rfl ?_
    refine jr_c jm_235 (show jw_cd cd_235 14 = some (.invokestatic 225) by decide +kernel) (mc_s (n := 7) (m2 := 236) (bs := [.int (Int32.ofInt (108)), .int (Int32.ofInt (101)), .int (Int32.ofInt (110)), .int (Int32.ofInt (103)), .int (Int32.ofInt (116)), .int (Int32.ofInt (104)), .int (Int32.ofInt (0))]) (r := [.long (Int64.ofInt (pk s))]) (by decide) (show jw_find jw_csT 34 225 = some (236, 7) by decide +kernel) rfl rfl rfl) jm_236 ⟨Nat.le_of_ble_eq_true rfl, by decide⟩ (jn_packed hl ⟨by decide, by decide⟩ ⟨by decide, by decide⟩ ⟨by decide, by decide⟩ ⟨by decide, by decide⟩ ⟨by decide, by decide⟩ ⟨by decide, by decide⟩ ⟨by decide, by decide⟩) ?_
    rw [wd0_p]
    refine jr_1 jm_235 (show jw_cd cd_235 17 = some (.lcmp) by decide +kernel) (mt_cmp (r := (if pk s < pk wd0 then (-1 : Int) else if pk s = pk wd0 then 0 else 1)) ⟨by have := (pk_b hs).1; omega, by have := (pk_b hs).2; omega⟩ ⟨by have := (pk_b wd0_t).1; omega, by have := (pk_b wd0_t).2; omega⟩ rfl) ?_
    refine jr_1 jm_235 (show jw_cd cd_235 18 = some (.ifCond .ne 7) by decide +kernel) (mz_t (q := .ne) (a := (if pk s < pk wd0 then (-1 : Int) else if pk s = pk wd0 then 0 else 1)) (t := 25) ((wd_cmp hs wd0_t).2.1 h0) ⟨by have := (wd_cmp hs wd0_t).2.2.2; omega, by have := (wd_cmp hs wd0_t).2.2.1; omega⟩ (by decide) (by decide)) ?_
    refine jr_1 jm_235 (show jw_cd cd_235 25 = some (.lload_n 0) by decide +kernel) rfl ?_
    refine jr_1 jm_235 (show jw_cd cd_235 26 = some (.bipush 107) by decide +kernel) (mt_bi (by decide)) ?_
    refine jr_1 jm_235 (show jw_cd cd_235 28 = some (.bipush 101) by decide +kernel) (mt_bi (by decide)) ?_
    refine jr_1 jm_235 (show jw_cd cd_235 30 = some (.bipush 121) by decide +kernel) (mt_bi (by decide)) ?_
    refine jr_1 jm_235 (show jw_cd cd_235 32 = some (.bipush 115) by decide +kernel) (mt_bi (by decide)) ?_
    refine jr_1 jm_235 (show jw_cd cd_235 34 = some (.iconst 0) by decide +kernel) rfl ?_
    refine jr_1 jm_235 (show jw_cd cd_235 35 = some (.iconst 0) by decide +kernel) rfl ?_
    refine jr_1 jm_235 (show jw_cd cd_235 36 = some (.iconst 0) by decide +kernel) rfl ?_
    refine jr_c jm_235 (show jw_cd cd_235 37 = some (.invokestatic 225) by decide +kernel) (mc_s (n := 7) (m2 := 236) (bs := [.int (Int32.ofInt (107)), .int (Int32.ofInt (101)), .int (Int32.ofInt (121)), .int (Int32.ofInt (115)), .int (Int32.ofInt (0)), .int (Int32.ofInt (0)), .int (Int32.ofInt (0))]) (r := [.long (Int64.ofInt (pk s))]) (by decide) (show jw_find jw_csT 34 225 = some (236, 7) by decide +kernel) rfl rfl rfl) jm_236 ⟨Nat.le_of_ble_eq_true rfl, by decide⟩ (jn_packed hl ⟨by decide, by decide⟩ ⟨by decide, by decide⟩ ⟨by decide, by decide⟩ ⟨by decide, by decide⟩ ⟨by decide, by decide⟩ ⟨by decide, by decide⟩ ⟨by decide, by decide⟩) ?_
    rw [wd1_p]
    refine jr_1 jm_235 (show jw_cd cd_235 40 = some (.lcmp) by decide +kernel) (mt_cmp (r := (if pk s < pk wd1 then (-1 : Int) else if pk s = pk wd1 then 0 else 1)) ⟨by have := (pk_b hs).1; omega, by have := (pk_b hs).2; omega⟩ ⟨by have := (pk_b wd1_t).1; omega, by have := (pk_b wd1_t).2; omega⟩ rfl) ?_
    refine jr_1 jm_235 (show jw_cd cd_235 41 = some (.ifCond .ne 7) by decide +kernel) (mz_t (q := .ne) (a := (if pk s < pk wd1 then (-1 : Int) else if pk s = pk wd1 then 0 else 1)) (t := 48) ((wd_cmp hs wd1_t).2.1 h1) ⟨by have := (wd_cmp hs wd1_t).2.2.2; omega, by have := (wd_cmp hs wd1_t).2.2.1; omega⟩ (by decide) (by decide)) ?_
    refine jr_1 jm_235 (show jw_cd cd_235 48 = some (.lload_n 0) by decide +kernel) rfl ?_
    refine jr_1 jm_235 (show jw_cd cd_235 49 = some (.bipush 118) by decide +kernel) (mt_bi (by decide)) ?_
    refine jr_1 jm_235 (show jw_cd cd_235 51 = some (.bipush 97) by decide +kernel) (mt_bi (by decide)) ?_
    refine jr_1 jm_235 (show jw_cd cd_235 53 = some (.bipush 108) by decide +kernel) (mt_bi (by decide)) ?_
    refine jr_1 jm_235 (show jw_cd cd_235 55 = some (.bipush 117) by decide +kernel) (mt_bi (by decide)) ?_
    refine jr_1 jm_235 (show jw_cd cd_235 57 = some (.bipush 101) by decide +kernel) (mt_bi (by decide)) ?_
    refine jr_1 jm_235 (show jw_cd cd_235 59 = some (.bipush 115) by decide +kernel) (mt_bi (by decide)) ?_
    refine jr_1 jm_235 (show jw_cd cd_235 61 = some (.iconst 0) by decide +kernel) rfl ?_
    refine jr_c jm_235 (show jw_cd cd_235 62 = some (.invokestatic 225) by decide +kernel) (mc_s (n := 7) (m2 := 236) (bs := [.int (Int32.ofInt (118)), .int (Int32.ofInt (97)), .int (Int32.ofInt (108)), .int (Int32.ofInt (117)), .int (Int32.ofInt (101)), .int (Int32.ofInt (115)), .int (Int32.ofInt (0))]) (r := [.long (Int64.ofInt (pk s))]) (by decide) (show jw_find jw_csT 34 225 = some (236, 7) by decide +kernel) rfl rfl rfl) jm_236 ⟨Nat.le_of_ble_eq_true rfl, by decide⟩ (jn_packed hl ⟨by decide, by decide⟩ ⟨by decide, by decide⟩ ⟨by decide, by decide⟩ ⟨by decide, by decide⟩ ⟨by decide, by decide⟩ ⟨by decide, by decide⟩ ⟨by decide, by decide⟩) ?_
    rw [wd2_p]
    refine jr_1 jm_235 (show jw_cd cd_235 65 = some (.lcmp) by decide +kernel) (mt_cmp (r := (if pk s < pk wd2 then (-1 : Int) else if pk s = pk wd2 then 0 else 1)) ⟨by have := (pk_b hs).1; omega, by have := (pk_b hs).2; omega⟩ ⟨by have := (pk_b wd2_t).1; omega, by have := (pk_b wd2_t).2; omega⟩ rfl) ?_
    refine jr_1 jm_235 (show jw_cd cd_235 66 = some (.ifCond .ne 7) by decide +kernel) (mz_t (q := .ne) (a := (if pk s < pk wd2 then (-1 : Int) else if pk s = pk wd2 then 0 else 1)) (t := 73) ((wd_cmp hs wd2_t).2.1 h2) ⟨by have := (wd_cmp hs wd2_t).2.2.2; omega, by have := (wd_cmp hs wd2_t).2.2.1; omega⟩ (by decide) (by decide)) ?_
    refine jr_1 jm_235 (show jw_cd cd_235 73 = some (.lload_n 0) by decide +kernel) rfl ?_
    refine jr_1 jm_235 (show jw_cd cd_235 74 = some (.bipush 115) by decide +kernel) (mt_bi (by decide)) ?_
    refine jr_1 jm_235 (show jw_cd cd_235 76 = some (.bipush 111) by decide +kernel) (mt_bi (by decide)) ?_
    refine jr_1 jm_235 (show jw_cd cd_235 78 = some (.bipush 114) by decide +kernel) (mt_bi (by decide)) ?_
    refine jr_1 jm_235 (show jw_cd cd_235 80 = some (.bipush 116) by decide +kernel) (mt_bi (by decide)) ?_
    refine jr_1 jm_235 (show jw_cd cd_235 82 = some (.iconst 0) by decide +kernel) rfl ?_
    refine jr_1 jm_235 (show jw_cd cd_235 83 = some (.iconst 0) by decide +kernel) rfl ?_
    refine jr_1 jm_235 (show jw_cd cd_235 84 = some (.iconst 0) by decide +kernel) rfl ?_
    refine jr_c jm_235 (show jw_cd cd_235 85 = some (.invokestatic 225) by decide +kernel) (mc_s (n := 7) (m2 := 236) (bs := [.int (Int32.ofInt (115)), .int (Int32.ofInt (111)), .int (Int32.ofInt (114)), .int (Int32.ofInt (116)), .int (Int32.ofInt (0)), .int (Int32.ofInt (0)), .int (Int32.ofInt (0))]) (r := [.long (Int64.ofInt (pk s))]) (by decide) (show jw_find jw_csT 34 225 = some (236, 7) by decide +kernel) rfl rfl rfl) jm_236 ⟨Nat.le_of_ble_eq_true rfl, by decide⟩ (jn_packed hl ⟨by decide, by decide⟩ ⟨by decide, by decide⟩ ⟨by decide, by decide⟩ ⟨by decide, by decide⟩ ⟨by decide, by decide⟩ ⟨by decide, by decide⟩ ⟨by decide, by decide⟩) ?_
    rw [wd3_p]
    refine jr_1 jm_235 (show jw_cd cd_235 88 = some (.lcmp) by decide +kernel) (mt_cmp (r := (if pk s < pk wd3 then (-1 : Int) else if pk s = pk wd3 then 0 else 1)) ⟨by have := (pk_b hs).1; omega, by have := (pk_b hs).2; omega⟩ ⟨by have := (pk_b wd3_t).1; omega, by have := (pk_b wd3_t).2; omega⟩ rfl) ?_
    refine jr_1 jm_235 (show jw_cd cd_235 89 = some (.ifCond .ne 7) by decide +kernel) (mz_t (q := .ne) (a := (if pk s < pk wd3 then (-1 : Int) else if pk s = pk wd3 then 0 else 1)) (t := 96) ((wd_cmp hs wd3_t).2.1 h3) ⟨by have := (wd_cmp hs wd3_t).2.2.2; omega, by have := (wd_cmp hs wd3_t).2.2.1; omega⟩ (by decide) (by decide)) ?_
    refine jr_1 jm_235 (show jw_cd cd_235 96 = some (.iconst (-1)) by decide +kernel) rfl ?_
    refine jr_1 jm_235 (F2 := (98, [some (.long (Int64.ofInt (pk s))), none, some (.int (Int32.ofInt (-1))), none], [], ml_mk h σ)) (show jw_cd cd_235 97 = some (.istore_n 2) by decide +kernel) rfl ?_
    exact kk
theorem jn_wo2 {β : Bool} {d : Nat} {h : jx_H} {σ : mS} (hl : 49 ≤ h.length) {s : List Int} (hs : tx s) {y : Int} : ∀ res, jx_r (jz β) jw_M (d + 2) 235 (194, [some (.long (Int64.ofInt (pk s))), none, some (.int (Int32.ofInt (y))), some (.int (Int32.ofInt (wg2 s)))], [], ml_mk h σ) res → jx_r (jz β) jw_M (d + 2) 235 (98, [some (.long (Int64.ofInt (pk s))), none, some (.int (Int32.ofInt (y))), none], [], ml_mk h σ) res := by
  intro res kk
  by_cases h4 : s = wd4
  · rw [show wg2 s = 4 from by unfold wg2; rw [if_pos h4]] at kk
    refine jr_1 jm_235 (show jw_cd cd_235 98 = some (.lload_n 0) by decide +kernel) rfl ?_
    refine jr_1 jm_235 (show jw_cd cd_235 99 = some (.bipush 114) by decide +kernel) (mt_bi (by decide)) ?_
    refine jr_1 jm_235 (show jw_cd cd_235 101 = some (.bipush 101) by decide +kernel) (mt_bi (by decide)) ?_
    refine jr_1 jm_235 (show jw_cd cd_235 103 = some (.bipush 118) by decide +kernel) (mt_bi (by decide)) ?_
    refine jr_1 jm_235 (show jw_cd cd_235 105 = some (.bipush 101) by decide +kernel) (mt_bi (by decide)) ?_
    refine jr_1 jm_235 (show jw_cd cd_235 107 = some (.bipush 114) by decide +kernel) (mt_bi (by decide)) ?_
    refine jr_1 jm_235 (show jw_cd cd_235 109 = some (.bipush 115) by decide +kernel) (mt_bi (by decide)) ?_
    refine jr_1 jm_235 (show jw_cd cd_235 111 = some (.bipush 101) by decide +kernel) (mt_bi (by decide)) ?_
    refine jr_c jm_235 (show jw_cd cd_235 113 = some (.invokestatic 225) by decide +kernel) (mc_s (n := 7) (m2 := 236) (bs := [.int (Int32.ofInt (114)), .int (Int32.ofInt (101)), .int (Int32.ofInt (118)), .int (Int32.ofInt (101)), .int (Int32.ofInt (114)), .int (Int32.ofInt (115)), .int (Int32.ofInt (101))]) (r := [.long (Int64.ofInt (pk s))]) (by decide) (show jw_find jw_csT 34 225 = some (236, 7) by decide +kernel) rfl rfl rfl) jm_236 ⟨Nat.le_of_ble_eq_true rfl, by decide⟩ (jn_packed hl ⟨by decide, by decide⟩ ⟨by decide, by decide⟩ ⟨by decide, by decide⟩ ⟨by decide, by decide⟩ ⟨by decide, by decide⟩ ⟨by decide, by decide⟩ ⟨by decide, by decide⟩) ?_
    rw [wd4_p]
    refine jr_1 jm_235 (show jw_cd cd_235 116 = some (.lcmp) by decide +kernel) (mt_cmp (r := (if pk s < pk wd4 then (-1 : Int) else if pk s = pk wd4 then 0 else 1)) ⟨by have := (pk_b hs).1; omega, by have := (pk_b hs).2; omega⟩ ⟨by have := (pk_b wd4_t).1; omega, by have := (pk_b wd4_t).2; omega⟩ rfl) ?_
    refine jr_1 jm_235 (show jw_cd cd_235 117 = some (.ifCond .ne 7) by decide +kernel) (mz_f (q := .ne) (a := (if pk s < pk wd4 then (-1 : Int) else if pk s = pk wd4 then 0 else 1)) (fun z => z ((wd_cmp hs wd4_t).1 h4)) ⟨by have := (wd_cmp hs wd4_t).2.2.2; omega, by have := (wd_cmp hs wd4_t).2.2.1; omega⟩ (by decide)) ?_
    refine jr_1 jm_235 (show jw_cd cd_235 120 = some (.iconst 4) by decide +kernel) rfl ?_
    refine jr_1 jm_235 (show jw_cd cd_235 121 = some (.goto 72) by decide +kernel) (ju_go (t := 193) (by decide)) ?_
    refine jr_1 jm_235 (F2 := (194, [some (.long (Int64.ofInt (pk s))), none, some (.int (Int32.ofInt (y))), some (.int (Int32.ofInt (4)))], [], ml_mk h σ)) (show jw_cd cd_235 193 = some (.istore_n 3) by decide +kernel) rfl ?_
    exact kk
  by_cases h5 : s = wd5
  · rw [show wg2 s = 5 from by unfold wg2; rw [if_neg h4]; rw [if_pos h5]] at kk
    refine jr_1 jm_235 (show jw_cd cd_235 98 = some (.lload_n 0) by decide +kernel) rfl ?_
    refine jr_1 jm_235 (show jw_cd cd_235 99 = some (.bipush 114) by decide +kernel) (mt_bi (by decide)) ?_
    refine jr_1 jm_235 (show jw_cd cd_235 101 = some (.bipush 101) by decide +kernel) (mt_bi (by decide)) ?_
    refine jr_1 jm_235 (show jw_cd cd_235 103 = some (.bipush 118) by decide +kernel) (mt_bi (by decide)) ?_
    refine jr_1 jm_235 (show jw_cd cd_235 105 = some (.bipush 101) by decide +kernel) (mt_bi (by decide)) ?_
    refine jr_1 jm_235 (show jw_cd cd_235 107 = some (.bipush 114) by decide +kernel) (mt_bi (by decide)) ?_
    refine jr_1 jm_235 (show jw_cd cd_235 109 = some (.bipush 115) by decide +kernel) (mt_bi (by decide)) ?_
    refine jr_1 jm_235 (show jw_cd cd_235 111 = some (.bipush 101) by decide +kernel) (mt_bi (by decide)) ?_
    refine jr_c jm_235 (show jw_cd cd_235 113 = some (.invokestatic 225) by decide +kernel) (mc_s (n := 7) (m2 := 236) (bs := [.int (Int32.ofInt (114)), .int (Int32.ofInt (101)), .int (Int32.ofInt (118)), .int (Int32.ofInt (101)), .int (Int32.ofInt (114)), .int (Int32.ofInt (115)), .int (Int32.ofInt (101))]) (r := [.long (Int64.ofInt (pk s))]) (by decide) (show jw_find jw_csT 34 225 = some (236, 7) by decide +kernel) rfl rfl rfl) jm_236 ⟨Nat.le_of_ble_eq_true rfl, by decide⟩ (jn_packed hl ⟨by decide, by decide⟩ ⟨by decide, by decide⟩ ⟨by decide, by decide⟩ ⟨by decide, by decide⟩ ⟨by decide, by decide⟩ ⟨by decide, by decide⟩ ⟨by decide, by decide⟩) ?_
    rw [wd4_p]
    refine jr_1 jm_235 (show jw_cd cd_235 116 = some (.lcmp) by decide +kernel) (mt_cmp (r := (if pk s < pk wd4 then (-1 : Int) else if pk s = pk wd4 then 0 else 1)) ⟨by have := (pk_b hs).1; omega, by have := (pk_b hs).2; omega⟩ ⟨by have := (pk_b wd4_t).1; omega, by have := (pk_b wd4_t).2; omega⟩ rfl) ?_
    refine jr_1 jm_235 (show jw_cd cd_235 117 = some (.ifCond .ne 7) by decide +kernel) (mz_t (q := .ne) (a := (if pk s < pk wd4 then (-1 : Int) else if pk s = pk wd4 then 0 else 1)) (t := 124) ((wd_cmp hs wd4_t).2.1 h4) ⟨by have := (wd_cmp hs wd4_t).2.2.2; omega, by have := (wd_cmp hs wd4_t).2.2.1; omega⟩ (by decide) (by decide)) ?_
    refine jr_1 jm_235 (show jw_cd cd_235 124 = some (.lload_n 0) by decide +kernel) rfl ?_
    refine jr_1 jm_235 (show jw_cd cd_235 125 = some (.bipush 115) by decide +kernel) (mt_bi (by decide)) ?_
    refine jr_1 jm_235 (show jw_cd cd_235 127 = some (.bipush 117) by decide +kernel) (mt_bi (by decide)) ?_
    refine jr_1 jm_235 (show jw_cd cd_235 129 = some (.bipush 109) by decide +kernel) (mt_bi (by decide)) ?_
    refine jr_1 jm_235 (show jw_cd cd_235 131 = some (.iconst 0) by decide +kernel) rfl ?_
    refine jr_1 jm_235 (show jw_cd cd_235 132 = some (.iconst 0) by decide +kernel) rfl ?_
    refine jr_1 jm_235 (show jw_cd cd_235 133 = some (.iconst 0) by decide +kernel) rfl ?_
    refine jr_1 jm_235 (show jw_cd cd_235 134 = some (.iconst 0) by decide +kernel) rfl ?_
    refine jr_c jm_235 (show jw_cd cd_235 135 = some (.invokestatic 225) by decide +kernel) (mc_s (n := 7) (m2 := 236) (bs := [.int (Int32.ofInt (115)), .int (Int32.ofInt (117)), .int (Int32.ofInt (109)), .int (Int32.ofInt (0)), .int (Int32.ofInt (0)), .int (Int32.ofInt (0)), .int (Int32.ofInt (0))]) (r := [.long (Int64.ofInt (pk s))]) (by decide) (show jw_find jw_csT 34 225 = some (236, 7) by decide +kernel) rfl rfl rfl) jm_236 ⟨Nat.le_of_ble_eq_true rfl, by decide⟩ (jn_packed hl ⟨by decide, by decide⟩ ⟨by decide, by decide⟩ ⟨by decide, by decide⟩ ⟨by decide, by decide⟩ ⟨by decide, by decide⟩ ⟨by decide, by decide⟩ ⟨by decide, by decide⟩) ?_
    rw [wd5_p]
    refine jr_1 jm_235 (show jw_cd cd_235 138 = some (.lcmp) by decide +kernel) (mt_cmp (r := (if pk s < pk wd5 then (-1 : Int) else if pk s = pk wd5 then 0 else 1)) ⟨by have := (pk_b hs).1; omega, by have := (pk_b hs).2; omega⟩ ⟨by have := (pk_b wd5_t).1; omega, by have := (pk_b wd5_t).2; omega⟩ rfl) ?_
    refine jr_1 jm_235 (show jw_cd cd_235 139 = some (.ifCond .ne 7) by decide +kernel) (mz_f (q := .ne) (a := (if pk s < pk wd5 then (-1 : Int) else if pk s = pk wd5 then 0 else 1)) (fun z => z ((wd_cmp hs wd5_t).1 h5)) ⟨by have := (wd_cmp hs wd5_t).2.2.2; omega, by have := (wd_cmp hs wd5_t).2.2.1; omega⟩ (by decide)) ?_
    refine jr_1 jm_235 (show jw_cd cd_235 142 = some (.iconst 5) by decide +kernel) rfl ?_
    refine jr_1 jm_235 (show jw_cd cd_235 143 = some (.goto 50) by decide +kernel) (ju_go (t := 193) (by decide)) ?_
    refine jr_1 jm_235 (F2 := (194, [some (.long (Int64.ofInt (pk s))), none, some (.int (Int32.ofInt (y))), some (.int (Int32.ofInt (5)))], [], ml_mk h σ)) (show jw_cd cd_235 193 = some (.istore_n 3) by decide +kernel) rfl ?_
    exact kk
  by_cases h6 : s = wd6
  · rw [show wg2 s = 6 from by unfold wg2; rw [if_neg h4]; rw [if_neg h5]; rw [if_pos h6]] at kk
    refine jr_1 jm_235 (show jw_cd cd_235 98 = some (.lload_n 0) by decide +kernel) rfl ?_
    refine jr_1 jm_235 (show jw_cd cd_235 99 = some (.bipush 114) by decide +kernel) (mt_bi (by decide)) ?_
    refine jr_1 jm_235 (show jw_cd cd_235 101 = some (.bipush 101) by decide +kernel) (mt_bi (by decide)) ?_
    refine jr_1 jm_235 (show jw_cd cd_235 103 = some (.bipush 118) by decide +kernel) (mt_bi (by decide)) ?_
    refine jr_1 jm_235 (show jw_cd cd_235 105 = some (.bipush 101) by decide +kernel) (mt_bi (by decide)) ?_
    refine jr_1 jm_235 (show jw_cd cd_235 107 = some (.bipush 114) by decide +kernel) (mt_bi (by decide)) ?_
    refine jr_1 jm_235 (show jw_cd cd_235 109 = some (.bipush 115) by decide +kernel) (mt_bi (by decide)) ?_
    refine jr_1 jm_235 (show jw_cd cd_235 111 = some (.bipush 101) by decide +kernel) (mt_bi (by decide)) ?_
    refine jr_c jm_235 (show jw_cd cd_235 113 = some (.invokestatic 225) by decide +kernel) (mc_s (n := 7) (m2 := 236) (bs := [.int (Int32.ofInt (114)), .int (Int32.ofInt (101)), .int (Int32.ofInt (118)), .int (Int32.ofInt (101)), .int (Int32.ofInt (114)), .int (Int32.ofInt (115)), .int (Int32.ofInt (101))]) (r := [.long (Int64.ofInt (pk s))]) (by decide) (show jw_find jw_csT 34 225 = some (236, 7) by decide +kernel) rfl rfl rfl) jm_236 ⟨Nat.le_of_ble_eq_true rfl, by decide⟩ (jn_packed hl ⟨by decide, by decide⟩ ⟨by decide, by decide⟩ ⟨by decide, by decide⟩ ⟨by decide, by decide⟩ ⟨by decide, by decide⟩ ⟨by decide, by decide⟩ ⟨by decide, by decide⟩) ?_
    rw [wd4_p]
    refine jr_1 jm_235 (show jw_cd cd_235 116 = some (.lcmp) by decide +kernel) (mt_cmp (r := (if pk s < pk wd4 then (-1 : Int) else if pk s = pk wd4 then 0 else 1)) ⟨by have := (pk_b hs).1; omega, by have := (pk_b hs).2; omega⟩ ⟨by have := (pk_b wd4_t).1; omega, by have := (pk_b wd4_t).2; omega⟩ rfl) ?_
    refine jr_1 jm_235 (show jw_cd cd_235 117 = some (.ifCond .ne 7) by decide +kernel) (mz_t (q := .ne) (a := (if pk s < pk wd4 then (-1 : Int) else if pk s = pk wd4 then 0 else 1)) (t := 124) ((wd_cmp hs wd4_t).2.1 h4) ⟨by have := (wd_cmp hs wd4_t).2.2.2; omega, by have := (wd_cmp hs wd4_t).2.2.1; omega⟩ (by decide) (by decide)) ?_
    refine jr_1 jm_235 (show jw_cd cd_235 124 = some (.lload_n 0) by decide +kernel) rfl ?_
    refine jr_1 jm_235 (show jw_cd cd_235 125 = some (.bipush 115) by decide +kernel) (mt_bi (by decide)) ?_
    refine jr_1 jm_235 (show jw_cd cd_235 127 = some (.bipush 117) by decide +kernel) (mt_bi (by decide)) ?_
    refine jr_1 jm_235 (show jw_cd cd_235 129 = some (.bipush 109) by decide +kernel) (mt_bi (by decide)) ?_
    refine jr_1 jm_235 (show jw_cd cd_235 131 = some (.iconst 0) by decide +kernel) rfl ?_
    refine jr_1 jm_235 (show jw_cd cd_235 132 = some (.iconst 0) by decide +kernel) rfl ?_
    refine jr_1 jm_235 (show jw_cd cd_235 133 = some (.iconst 0) by decide +kernel) rfl ?_
    refine jr_1 jm_235 (show jw_cd cd_235 134 = some (.iconst 0) by decide +kernel) rfl ?_
    refine jr_c jm_235 (show jw_cd cd_235 135 = some (.invokestatic 225) by decide +kernel) (mc_s (n := 7) (m2 := 236) (bs := [.int (Int32.ofInt (115)), .int (Int32.ofInt (117)), .int (Int32.ofInt (109)), .int (Int32.ofInt (0)), .int (Int32.ofInt (0)), .int (Int32.ofInt (0)), .int (Int32.ofInt (0))]) (r := [.long (Int64.ofInt (pk s))]) (by decide) (show jw_find jw_csT 34 225 = some (236, 7) by decide +kernel) rfl rfl rfl) jm_236 ⟨Nat.le_of_ble_eq_true rfl, by decide⟩ (jn_packed hl ⟨by decide, by decide⟩ ⟨by decide, by decide⟩ ⟨by decide, by decide⟩ ⟨by decide, by decide⟩ ⟨by decide, by decide⟩ ⟨by decide, by decide⟩ ⟨by decide, by decide⟩) ?_
    rw [wd5_p]
    refine jr_1 jm_235 (show jw_cd cd_235 138 = some (.lcmp) by decide +kernel) (mt_cmp (r := (if pk s < pk wd5 then (-1 : Int) else if pk s = pk wd5 then 0 else 1)) ⟨by have := (pk_b hs).1; omega, by have := (pk_b hs).2; omega⟩ ⟨by have := (pk_b wd5_t).1; omega, by have := (pk_b wd5_t).2; omega⟩ rfl) ?_
    refine jr_1 jm_235 (show jw_cd cd_235 139 = some (.ifCond .ne 7) by decide +kernel) (mz_t (q := .ne) (a := (if pk s < pk wd5 then (-1 : Int) else if pk s = pk wd5 then 0 else 1)) (t := 146) ((wd_cmp hs wd5_t).2.1 h5) ⟨by have := (wd_cmp hs wd5_t).2.2.2; omega, by have := (wd_cmp hs wd5_t).2.2.1; omega⟩ (by decide) (by decide)) ?_
    refine jr_1 jm_235 (show jw_cd cd_235 146 = some (.lload_n 0) by decide +kernel) rfl ?_
    refine jr_1 jm_235 (show jw_cd cd_235 147 = some (.bipush 109) by decide +kernel) (mt_bi (by decide)) ?_
    refine jr_1 jm_235 (show jw_cd cd_235 149 = some (.bipush 97) by decide +kernel) (mt_bi (by decide)) ?_
    refine jr_1 jm_235 (show jw_cd cd_235 151 = some (.bipush 120) by decide +kernel) (mt_bi (by decide)) ?_
    refine jr_1 jm_235 (show jw_cd cd_235 153 = some (.iconst 0) by decide +kernel) rfl ?_
    refine jr_1 jm_235 (show jw_cd cd_235 154 = some (.iconst 0) by decide +kernel) rfl ?_
    refine jr_1 jm_235 (show jw_cd cd_235 155 = some (.iconst 0) by decide +kernel) rfl ?_
    refine jr_1 jm_235 (show jw_cd cd_235 156 = some (.iconst 0) by decide +kernel) rfl ?_
    refine jr_c jm_235 (show jw_cd cd_235 157 = some (.invokestatic 225) by decide +kernel) (mc_s (n := 7) (m2 := 236) (bs := [.int (Int32.ofInt (109)), .int (Int32.ofInt (97)), .int (Int32.ofInt (120)), .int (Int32.ofInt (0)), .int (Int32.ofInt (0)), .int (Int32.ofInt (0)), .int (Int32.ofInt (0))]) (r := [.long (Int64.ofInt (pk s))]) (by decide) (show jw_find jw_csT 34 225 = some (236, 7) by decide +kernel) rfl rfl rfl) jm_236 ⟨Nat.le_of_ble_eq_true rfl, by decide⟩ (jn_packed hl ⟨by decide, by decide⟩ ⟨by decide, by decide⟩ ⟨by decide, by decide⟩ ⟨by decide, by decide⟩ ⟨by decide, by decide⟩ ⟨by decide, by decide⟩ ⟨by decide, by decide⟩) ?_
    rw [wd6_p]
    refine jr_1 jm_235 (show jw_cd cd_235 160 = some (.lcmp) by decide +kernel) (mt_cmp (r := (if pk s < pk wd6 then (-1 : Int) else if pk s = pk wd6 then 0 else 1)) ⟨by have := (pk_b hs).1; omega, by have := (pk_b hs).2; omega⟩ ⟨by have := (pk_b wd6_t).1; omega, by have := (pk_b wd6_t).2; omega⟩ rfl) ?_
    refine jr_1 jm_235 (show jw_cd cd_235 161 = some (.ifCond .ne 8) by decide +kernel) (mz_f (q := .ne) (a := (if pk s < pk wd6 then (-1 : Int) else if pk s = pk wd6 then 0 else 1)) (fun z => z ((wd_cmp hs wd6_t).1 h6)) ⟨by have := (wd_cmp hs wd6_t).2.2.2; omega, by have := (wd_cmp hs wd6_t).2.2.1; omega⟩ (by decide)) ?_
    refine jr_1 jm_235 (show jw_cd cd_235 164 = some (.bipush 6) by decide +kernel) (mt_bi (by decide)) ?_
    refine jr_1 jm_235 (show jw_cd cd_235 166 = some (.goto 27) by decide +kernel) (ju_go (t := 193) (by decide)) ?_
    refine jr_1 jm_235 (F2 := (194, [some (.long (Int64.ofInt (pk s))), none, some (.int (Int32.ofInt (y))), some (.int (Int32.ofInt (6)))], [], ml_mk h σ)) (show jw_cd cd_235 193 = some (.istore_n 3) by decide +kernel) rfl ?_
    exact kk
  by_cases h7 : s = wd7
  · rw [show wg2 s = 7 from by unfold wg2; rw [if_neg h4]; rw [if_neg h5]; rw [if_neg h6]; rw [if_pos h7]] at kk
    refine jr_1 jm_235 (show jw_cd cd_235 98 = some (.lload_n 0) by decide +kernel) rfl ?_
    refine jr_1 jm_235 (show jw_cd cd_235 99 = some (.bipush 114) by decide +kernel) (mt_bi (by decide)) ?_
    refine jr_1 jm_235 (show jw_cd cd_235 101 = some (.bipush 101) by decide +kernel) (mt_bi (by decide)) ?_
    refine jr_1 jm_235 (show jw_cd cd_235 103 = some (.bipush 118) by decide +kernel) (mt_bi (by decide)) ?_
    refine jr_1 jm_235 (show jw_cd cd_235 105 = some (.bipush 101) by decide +kernel) (mt_bi (by decide)) ?_
    refine jr_1 jm_235 (show jw_cd cd_235 107 = some (.bipush 114) by decide +kernel) (mt_bi (by decide)) ?_
    refine jr_1 jm_235 (show jw_cd cd_235 109 = some (.bipush 115) by decide +kernel) (mt_bi (by decide)) ?_
    refine jr_1 jm_235 (show jw_cd cd_235 111 = some (.bipush 101) by decide +kernel) (mt_bi (by decide)) ?_
    refine jr_c jm_235 (show jw_cd cd_235 113 = some (.invokestatic 225) by decide +kernel) (mc_s (n := 7) (m2 := 236) (bs := [.int (Int32.ofInt (114)), .int (Int32.ofInt (101)), .int (Int32.ofInt (118)), .int (Int32.ofInt (101)), .int (Int32.ofInt (114)), .int (Int32.ofInt (115)), .int (Int32.ofInt (101))]) (r := [.long (Int64.ofInt (pk s))]) (by decide) (show jw_find jw_csT 34 225 = some (236, 7) by decide +kernel) rfl rfl rfl) jm_236 ⟨Nat.le_of_ble_eq_true rfl, by decide⟩ (jn_packed hl ⟨by decide, by decide⟩ ⟨by decide, by decide⟩ ⟨by decide, by decide⟩ ⟨by decide, by decide⟩ ⟨by decide, by decide⟩ ⟨by decide, by decide⟩ ⟨by decide, by decide⟩) ?_
    rw [wd4_p]
    refine jr_1 jm_235 (show jw_cd cd_235 116 = some (.lcmp) by decide +kernel) (mt_cmp (r := (if pk s < pk wd4 then (-1 : Int) else if pk s = pk wd4 then 0 else 1)) ⟨by have := (pk_b hs).1; omega, by have := (pk_b hs).2; omega⟩ ⟨by have := (pk_b wd4_t).1; omega, by have := (pk_b wd4_t).2; omega⟩ rfl) ?_
    refine jr_1 jm_235 (show jw_cd cd_235 117 = some (.ifCond .ne 7) by decide +kernel) (mz_t (q := .ne) (a := (if pk s < pk wd4 then (-1 : Int) else if pk s = pk wd4 then 0 else 1)) (t := 124) ((wd_cmp hs wd4_t).2.1 h4) ⟨by have := (wd_cmp hs wd4_t).2.2.2; omega, by have := (wd_cmp hs wd4_t).2.2.1; omega⟩ (by decide) (by decide)) ?_
    refine jr_1 jm_235 (show jw_cd cd_235 124 = some (.lload_n 0) by decide +kernel) rfl ?_
    refine jr_1 jm_235 (show jw_cd cd_235 125 = some (.bipush 115) by decide +kernel) (mt_bi (by decide)) ?_
    refine jr_1 jm_235 (show jw_cd cd_235 127 = some (.bipush 117) by decide +kernel) (mt_bi (by decide)) ?_
    refine jr_1 jm_235 (show jw_cd cd_235 129 = some (.bipush 109) by decide +kernel) (mt_bi (by decide)) ?_
    refine jr_1 jm_235 (show jw_cd cd_235 131 = some (.iconst 0) by decide +kernel) rfl ?_
    refine jr_1 jm_235 (show jw_cd cd_235 132 = some (.iconst 0) by decide +kernel) rfl ?_
    refine jr_1 jm_235 (show jw_cd cd_235 133 = some (.iconst 0) by decide +kernel) rfl ?_
    refine jr_1 jm_235 (show jw_cd cd_235 134 = some (.iconst 0) by decide +kernel) rfl ?_
    refine jr_c jm_235 (show jw_cd cd_235 135 = some (.invokestatic 225) by decide +kernel) (mc_s (n := 7) (m2 := 236) (bs := [.int (Int32.ofInt (115)), .int (Int32.ofInt (117)), .int (Int32.ofInt (109)), .int (Int32.ofInt (0)), .int (Int32.ofInt (0)), .int (Int32.ofInt (0)), .int (Int32.ofInt (0))]) (r := [.long (Int64.ofInt (pk s))]) (by decide) (show jw_find jw_csT 34 225 = some (236, 7) by decide +kernel) rfl rfl rfl) jm_236 ⟨Nat.le_of_ble_eq_true rfl, by decide⟩ (jn_packed hl ⟨by decide, by decide⟩ ⟨by decide, by decide⟩ ⟨by decide, by decide⟩ ⟨by decide, by decide⟩ ⟨by decide, by decide⟩ ⟨by decide, by decide⟩ ⟨by decide, by decide⟩) ?_
    rw [wd5_p]
    refine jr_1 jm_235 (show jw_cd cd_235 138 = some (.lcmp) by decide +kernel) (mt_cmp (r := (if pk s < pk wd5 then (-1 : Int) else if pk s = pk wd5 then 0 else 1)) ⟨by have := (pk_b hs).1; omega, by have := (pk_b hs).2; omega⟩ ⟨by have := (pk_b wd5_t).1; omega, by have := (pk_b wd5_t).2; omega⟩ rfl) ?_
    refine jr_1 jm_235 (show jw_cd cd_235 139 = some (.ifCond .ne 7) by decide +kernel) (mz_t (q := .ne) (a := (if pk s < pk wd5 then (-1 : Int) else if pk s = pk wd5 then 0 else 1)) (t := 146) ((wd_cmp hs wd5_t).2.1 h5) ⟨by have := (wd_cmp hs wd5_t).2.2.2; omega, by have := (wd_cmp hs wd5_t).2.2.1; omega⟩ (by decide) (by decide)) ?_
    refine jr_1 jm_235 (show jw_cd cd_235 146 = some (.lload_n 0) by decide +kernel) rfl ?_
    refine jr_1 jm_235 (show jw_cd cd_235 147 = some (.bipush 109) by decide +kernel) (mt_bi (by decide)) ?_
    refine jr_1 jm_235 (show jw_cd cd_235 149 = some (.bipush 97) by decide +kernel) (mt_bi (by decide)) ?_
    refine jr_1 jm_235 (show jw_cd cd_235 151 = some (.bipush 120) by decide +kernel) (mt_bi (by decide)) ?_
    refine jr_1 jm_235 (show jw_cd cd_235 153 = some (.iconst 0) by decide +kernel) rfl ?_
    refine jr_1 jm_235 (show jw_cd cd_235 154 = some (.iconst 0) by decide +kernel) rfl ?_
    refine jr_1 jm_235 (show jw_cd cd_235 155 = some (.iconst 0) by decide +kernel) rfl ?_
    refine jr_1 jm_235 (show jw_cd cd_235 156 = some (.iconst 0) by decide +kernel) rfl ?_
    refine jr_c jm_235 (show jw_cd cd_235 157 = some (.invokestatic 225) by decide +kernel) (mc_s (n := 7) (m2 := 236) (bs := [.int (Int32.ofInt (109)), .int (Int32.ofInt (97)), .int (Int32.ofInt (120)), .int (Int32.ofInt (0)), .int (Int32.ofInt (0)), .int (Int32.ofInt (0)), .int (Int32.ofInt (0))]) (r := [.long (Int64.ofInt (pk s))]) (by decide) (show jw_find jw_csT 34 225 = some (236, 7) by decide +kernel) rfl rfl rfl) jm_236 ⟨Nat.le_of_ble_eq_true rfl, by decide⟩ (jn_packed hl ⟨by decide, by decide⟩ ⟨by decide, by decide⟩ ⟨by decide, by decide⟩ ⟨by decide, by decide⟩ ⟨by decide, by decide⟩ ⟨by decide, by decide⟩ ⟨by decide, by decide⟩) ?_
    rw [wd6_p]
    refine jr_1 jm_235 (show jw_cd cd_235 160 = some (.lcmp) by decide +kernel) (mt_cmp (r := (if pk s < pk wd6 then (-1 : Int) else if pk s = pk wd6 then 0 else 1)) ⟨by have := (pk_b hs).1; omega, by have := (pk_b hs).2; omega⟩ ⟨by have := (pk_b wd6_t).1; omega, by have := (pk_b wd6_t).2; omega⟩ rfl) ?_
    refine jr_1 jm_235 (show jw_cd cd_235 161 = some (.ifCond .ne 8) by decide +kernel) (mz_t (q := .ne) (a := (if pk s < pk wd6 then (-1 : Int) else if pk s = pk wd6 then 0 else 1)) (t := 169) ((wd_cmp hs wd6_t).2.1 h6) ⟨by have := (wd_cmp hs wd6_t).2.2.2; omega, by have := (wd_cmp hs wd6_t).2.2.1; omega⟩ (by decide) (by decide)) ?_
    refine jr_1 jm_235 (show jw_cd cd_235 169 = some (.lload_n 0) by decide +kernel) rfl ?_
    refine jr_1 jm_235 (show jw_cd cd_235 170 = some (.bipush 109) by decide +kernel) (mt_bi (by decide)) ?_
    refine jr_1 jm_235 (show jw_cd cd_235 172 = some (.bipush 105) by decide +kernel) (mt_bi (by decide)) ?_
    refine jr_1 jm_235 (show jw_cd cd_235 174 = some (.bipush 110) by decide +kernel) (mt_bi (by decide)) ?_
    refine jr_1 jm_235 (show jw_cd cd_235 176 = some (.iconst 0) by decide +kernel) rfl ?_
    refine jr_1 jm_235 (show jw_cd cd_235 177 = some (.iconst 0) by decide +kernel) rfl ?_
    refine jr_1 jm_235 (show jw_cd cd_235 178 = some (.iconst 0) by decide +kernel) rfl ?_
    refine jr_1 jm_235 (show jw_cd cd_235 179 = some (.iconst 0) by decide +kernel) rfl ?_
    refine jr_c jm_235 (show jw_cd cd_235 180 = some (.invokestatic 225) by decide +kernel) (mc_s (n := 7) (m2 := 236) (bs := [.int (Int32.ofInt (109)), .int (Int32.ofInt (105)), .int (Int32.ofInt (110)), .int (Int32.ofInt (0)), .int (Int32.ofInt (0)), .int (Int32.ofInt (0)), .int (Int32.ofInt (0))]) (r := [.long (Int64.ofInt (pk s))]) (by decide) (show jw_find jw_csT 34 225 = some (236, 7) by decide +kernel) rfl rfl rfl) jm_236 ⟨Nat.le_of_ble_eq_true rfl, by decide⟩ (jn_packed hl ⟨by decide, by decide⟩ ⟨by decide, by decide⟩ ⟨by decide, by decide⟩ ⟨by decide, by decide⟩ ⟨by decide, by decide⟩ ⟨by decide, by decide⟩ ⟨by decide, by decide⟩) ?_
    rw [wd7_p]
    refine jr_1 jm_235 (show jw_cd cd_235 183 = some (.lcmp) by decide +kernel) (mt_cmp (r := (if pk s < pk wd7 then (-1 : Int) else if pk s = pk wd7 then 0 else 1)) ⟨by have := (pk_b hs).1; omega, by have := (pk_b hs).2; omega⟩ ⟨by have := (pk_b wd7_t).1; omega, by have := (pk_b wd7_t).2; omega⟩ rfl) ?_
    refine jr_1 jm_235 (show jw_cd cd_235 184 = some (.ifCond .ne 8) by decide +kernel) (mz_f (q := .ne) (a := (if pk s < pk wd7 then (-1 : Int) else if pk s = pk wd7 then 0 else 1)) (fun z => z ((wd_cmp hs wd7_t).1 h7)) ⟨by have := (wd_cmp hs wd7_t).2.2.2; omega, by have := (wd_cmp hs wd7_t).2.2.1; omega⟩ (by decide)) ?_
    refine jr_1 jm_235 (show jw_cd cd_235 187 = some (.bipush 7) by decide +kernel) (mt_bi (by decide)) ?_
    refine jr_1 jm_235 (show jw_cd cd_235 189 = some (.goto 4) by decide +kernel) (ju_go (t := 193) (by decide)) ?_
    refine jr_1 jm_235 (F2 := (194, [some (.long (Int64.ofInt (pk s))), none, some (.int (Int32.ofInt (y))), some (.int (Int32.ofInt (7)))], [], ml_mk h σ)) (show jw_cd cd_235 193 = some (.istore_n 3) by decide +kernel) rfl ?_
    exact kk
  · rw [show wg2 s = -1 from by unfold wg2; rw [if_neg h4]; rw [if_neg h5]; rw [if_neg h6]; rw [if_neg h7]] at kk
    refine jr_1 jm_235 (show jw_cd cd_235 98 = some (.lload_n 0) by decide +kernel) rfl ?_
    refine jr_1 jm_235 (show jw_cd cd_235 99 = some (.bipush 114) by decide +kernel) (mt_bi (by decide)) ?_
    refine jr_1 jm_235 (show jw_cd cd_235 101 = some (.bipush 101) by decide +kernel) (mt_bi (by decide)) ?_
    refine jr_1 jm_235 (show jw_cd cd_235 103 = some (.bipush 118) by decide +kernel) (mt_bi (by decide)) ?_
    refine jr_1 jm_235 (show jw_cd cd_235 105 = some (.bipush 101) by decide +kernel) (mt_bi (by decide)) ?_
    refine jr_1 jm_235 (show jw_cd cd_235 107 = some (.bipush 114) by decide +kernel) (mt_bi (by decide)) ?_
    refine jr_1 jm_235 (show jw_cd cd_235 109 = some (.bipush 115) by decide +kernel) (mt_bi (by decide)) ?_
    refine jr_1 jm_235 (show jw_cd cd_235 111 = some (.bipush 101) by decide +kernel) (mt_bi (by decide)) ?_
    refine jr_c jm_235 (show jw_cd cd_235 113 = some (.invokestatic 225) by decide +kernel) (mc_s (n := 7) (m2 := 236) (bs := [.int (Int32.ofInt (114)), .int (Int32.ofInt (101)), .int (Int32.ofInt (118)), .int (Int32.ofInt (101)), .int (Int32.ofInt (114)), .int (Int32.ofInt (115)), .int (Int32.ofInt (101))]) (r := [.long (Int64.ofInt (pk s))]) (by decide) (show jw_find jw_csT 34 225 = some (236, 7) by decide +kernel) rfl rfl rfl) jm_236 ⟨Nat.le_of_ble_eq_true rfl, by decide⟩ (jn_packed hl ⟨by decide, by decide⟩ ⟨by decide, by decide⟩ ⟨by decide, by decide⟩ ⟨by decide, by decide⟩ ⟨by decide, by decide⟩ ⟨by decide, by decide⟩ ⟨by decide, by decide⟩) ?_
    rw [wd4_p]
    refine jr_1 jm_235 (show jw_cd cd_235 116 = some (.lcmp) by decide +kernel) (mt_cmp (r := (if pk s < pk wd4 then (-1 : Int) else if pk s = pk wd4 then 0 else 1)) ⟨by have := (pk_b hs).1; omega, by have := (pk_b hs).2; omega⟩ ⟨by have := (pk_b wd4_t).1; omega, by have := (pk_b wd4_t).2; omega⟩ rfl) ?_
    refine jr_1 jm_235 (show jw_cd cd_235 117 = some (.ifCond .ne 7) by decide +kernel) (mz_t (q := .ne) (a := (if pk s < pk wd4 then (-1 : Int) else if pk s = pk wd4 then 0 else 1)) (t := 124) ((wd_cmp hs wd4_t).2.1 h4) ⟨by have := (wd_cmp hs wd4_t).2.2.2; omega, by have := (wd_cmp hs wd4_t).2.2.1; omega⟩ (by decide) (by decide)) ?_
    refine jr_1 jm_235 (show jw_cd cd_235 124 = some (.lload_n 0) by decide +kernel) rfl ?_
    refine jr_1 jm_235 (show jw_cd cd_235 125 = some (.bipush 115) by decide +kernel) (mt_bi (by decide)) ?_
    refine jr_1 jm_235 (show jw_cd cd_235 127 = some (.bipush 117) by decide +kernel) (mt_bi (by decide)) ?_
    refine jr_1 jm_235 (show jw_cd cd_235 129 = some (.bipush 109) by decide +kernel) (mt_bi (by decide)) ?_
    refine jr_1 jm_235 (show jw_cd cd_235 131 = some (.iconst 0) by decide +kernel) rfl ?_
    refine jr_1 jm_235 (show jw_cd cd_235 132 = some (.iconst 0) by decide +kernel) rfl ?_
    refine jr_1 jm_235 (show jw_cd cd_235 133 = some (.iconst 0) by decide +kernel) rfl ?_
    refine jr_1 jm_235 (show jw_cd cd_235 134 = some (.iconst 0) by decide +kernel) rfl ?_
    refine jr_c jm_235 (show jw_cd cd_235 135 = some (.invokestatic 225) by decide +kernel) (mc_s (n := 7) (m2 := 236) (bs := [.int (Int32.ofInt (115)), .int (Int32.ofInt (117)), .int (Int32.ofInt (109)), .int (Int32.ofInt (0)), .int (Int32.ofInt (0)), .int (Int32.ofInt (0)), .int (Int32.ofInt (0))]) (r := [.long (Int64.ofInt (pk s))]) (by decide) (show jw_find jw_csT 34 225 = some (236, 7) by decide +kernel) rfl rfl rfl) jm_236 ⟨Nat.le_of_ble_eq_true rfl, by decide⟩ (jn_packed hl ⟨by decide, by decide⟩ ⟨by decide, by decide⟩ ⟨by decide, by decide⟩ ⟨by decide, by decide⟩ ⟨by decide, by decide⟩ ⟨by decide, by decide⟩ ⟨by decide, by decide⟩) ?_
    rw [wd5_p]
    refine jr_1 jm_235 (show jw_cd cd_235 138 = some (.lcmp) by decide +kernel) (mt_cmp (r := (if pk s < pk wd5 then (-1 : Int) else if pk s = pk wd5 then 0 else 1)) ⟨by have := (pk_b hs).1; omega, by have := (pk_b hs).2; omega⟩ ⟨by have := (pk_b wd5_t).1; omega, by have := (pk_b wd5_t).2; omega⟩ rfl) ?_
    refine jr_1 jm_235 (show jw_cd cd_235 139 = some (.ifCond .ne 7) by decide +kernel) (mz_t (q := .ne) (a := (if pk s < pk wd5 then (-1 : Int) else if pk s = pk wd5 then 0 else 1)) (t := 146) ((wd_cmp hs wd5_t).2.1 h5) ⟨by have := (wd_cmp hs wd5_t).2.2.2; omega, by have := (wd_cmp hs wd5_t).2.2.1; omega⟩ (by decide) (by decide)) ?_
    refine jr_1 jm_235 (show jw_cd cd_235 146 = some (.lload_n 0) by decide +kernel) rfl ?_
    refine jr_1 jm_235 (show jw_cd cd_235 147 = some (.bipush 109) by decide +kernel) (mt_bi (by decide)) ?_
    refine jr_1 jm_235 (show jw_cd cd_235 149 = some (.bipush 97) by decide +kernel) (mt_bi (by decide)) ?_
    refine jr_1 jm_235 (show jw_cd cd_235 151 = some (.bipush 120) by decide +kernel) (mt_bi (by decide)) ?_
    refine jr_1 jm_235 (show jw_cd cd_235 153 = some (.iconst 0) by decide +kernel) rfl ?_
    refine jr_1 jm_235 (show jw_cd cd_235 154 = some (.iconst 0) by decide +kernel) rfl ?_
    refine jr_1 jm_235 (show jw_cd cd_235 155 = some (.iconst 0) by decide +kernel) rfl ?_
    refine jr_1 jm_235 (show jw_cd cd_235 156 = some (.iconst 0) by decide +kernel) rfl ?_
    refine jr_c jm_235 (show jw_cd cd_235 157 = some (.invokestatic 225) by decide +kernel) (mc_s (n := 7) (m2 := 236) (bs := [.int (Int32.ofInt (109)), .int (Int32.ofInt (97)), .int (Int32.ofInt (120)), .int (Int32.ofInt (0)), .int (Int32.ofInt (0)), .int (Int32.ofInt (0)), .int (Int32.ofInt (0))]) (r := [.long (Int64.ofInt (pk s))]) (by decide) (show jw_find jw_csT 34 225 = some (236, 7) by decide +kernel) rfl rfl rfl) jm_236 ⟨Nat.le_of_ble_eq_true rfl, by decide⟩ (jn_packed hl ⟨by decide, by decide⟩ ⟨by decide, by decide⟩ ⟨by decide, by decide⟩ ⟨by decide, by decide⟩ ⟨by decide, by decide⟩ ⟨by decide, by decide⟩ ⟨by decide, by decide⟩) ?_
    rw [wd6_p]
    refine jr_1 jm_235 (show jw_cd cd_235 160 = some (.lcmp) by decide +kernel) (mt_cmp (r := (if pk s < pk wd6 then (-1 : Int) else if pk s = pk wd6 then 0 else 1)) ⟨by have := (pk_b hs).1; omega, by have := (pk_b hs).2; omega⟩ ⟨by have := (pk_b wd6_t).1; omega, by have := (pk_b wd6_t).2; omega⟩ rfl) ?_
    refine jr_1 jm_235 (show jw_cd cd_235 161 = some (.ifCond .ne 8) by decide +kernel) (mz_t (q := .ne) (a := (if pk s < pk wd6 then (-1 : Int) else if pk s = pk wd6 then 0 else 1)) (t := 169) ((wd_cmp hs wd6_t).2.1 h6) ⟨by have := (wd_cmp hs wd6_t).2.2.2; omega, by have := (wd_cmp hs wd6_t).2.2.1; omega⟩ (by decide) (by decide)) ?_
    refine jr_1 jm_235 (show jw_cd cd_235 169 = some (.lload_n 0) by decide +kernel) rfl ?_
    refine jr_1 jm_235 (show jw_cd cd_235 170 = some (.bipush 109) by decide +kernel) (mt_bi (by decide)) ?_
    refine jr_1 jm_235 (show jw_cd cd_235 172 = some (.bipush 105) by decide +kernel) (mt_bi (by decide)) ?_
    refine jr_1 jm_235 (show jw_cd cd_235 174 = some (.bipush 110) by decide +kernel) (mt_bi (by decide)) ?_
    refine jr_1 jm_235 (show jw_cd cd_235 176 = some (.iconst 0) by decide +kernel) rfl ?_
    refine jr_1 jm_235 (show jw_cd cd_235 177 = some (.iconst 0) by decide +kernel) rfl ?_
    refine jr_1 jm_235 (show jw_cd cd_235 178 = some (.iconst 0) by decide +kernel) rfl ?_
    refine jr_1 jm_235 (show jw_cd cd_235 179 = some (.iconst 0) by decide +kernel) rfl ?_
    refine jr_c jm_235 (show jw_cd cd_235 180 = some (.invokestatic 225) by decide +kernel) (mc_s (n := 7) (m2 := 236) (bs := [.int (Int32.ofInt (109)), .int (Int32.ofInt (105)), .int (Int32.ofInt (110)), .int (Int32.ofInt (0)), .int (Int32.ofInt (0)), .int (Int32.ofInt (0)), .int (Int32.ofInt (0))]) (r := [.long (Int64.ofInt (pk s))]) (by decide) (show jw_find jw_csT 34 225 = some (236, 7) by decide +kernel) rfl rfl rfl) jm_236 ⟨Nat.le_of_ble_eq_true rfl, by decide⟩ (jn_packed hl ⟨by decide, by decide⟩ ⟨by decide, by decide⟩ ⟨by decide, by decide⟩ ⟨by decide, by decide⟩ ⟨by decide, by decide⟩ ⟨by decide, by decide⟩ ⟨by decide, by decide⟩) ?_
    rw [wd7_p]
    refine jr_1 jm_235 (show jw_cd cd_235 183 = some (.lcmp) by decide +kernel) (mt_cmp (r := (if pk s < pk wd7 then (-1 : Int) else if pk s = pk wd7 then 0 else 1)) ⟨by have := (pk_b hs).1; omega, by have := (pk_b hs).2; omega⟩ ⟨by have := (pk_b wd7_t).1; omega, by have := (pk_b wd7_t).2; omega⟩ rfl) ?_
    refine jr_1 jm_235 (show jw_cd cd_235 184 = some (.ifCond .ne 8) by decide +kernel) (mz_t (q := .ne) (a := (if pk s < pk wd7 then (-1 : Int) else if pk s = pk wd7 then 0 else 1)) (t := 192) ((wd_cmp hs wd7_t).2.1 h7) ⟨by have := (wd_cmp hs wd7_t).2.2.2; omega, by have := (wd_cmp hs wd7_t).2.2.1; omega⟩ (by decide) (by decide)) ?_
    refine jr_1 jm_235 (show jw_cd cd_235 192 = some (.iconst (-1)) by decide +kernel) rfl ?_
    refine jr_1 jm_235 (F2 := (194, [some (.long (Int64.ofInt (pk s))), none, some (.int (Int32.ofInt (y))), some (.int (Int32.ofInt (-1)))], [], ml_mk h σ)) (show jw_cd cd_235 193 = some (.istore_n 3) by decide +kernel) rfl ?_
    exact kk
theorem wg1_r (s : List Int) : -1 ≤ wg1 s ∧ wg1 s ≤ 3 := by
  unfold wg1
  repeat' split
  all_goals decide
theorem wg2_r (s : List Int) : -1 ≤ wg2 s ∧ wg2 s ≤ 7 := by
  unfold wg2
  repeat' split
  all_goals decide
theorem jn_wordOf {β : Bool} {d : Nat} {h : jx_H} {σ : mS} (hl : 49 ≤ h.length) {s : List Int} (hs : tx s) : jx_r (jz β) jw_M (d + 2) 235 (0, [some (.long (Int64.ofInt (pk s))), none, none, none], [], ml_mk h σ) (ml_mk h (σ), .inl (some (.int (Int32.ofInt (wordS s))))) := by
  have q1 := wg1_r s
  have q2 := wg2_r s
  have r1 : mr (wg1 s) := ⟨by omega, by omega⟩
  have r2 : mr (wg2 s) := ⟨by omega, by omega⟩
  refine jn_wo1 hl hs _ (jn_wo2 hl hs _ ?_)
  by_cases hg1 : wg1 s = -1
  · by_cases hg2 : wg2 s = -1
    · by_cases h8 : s = wd8
      · rw [show wordS s = 8 from by unfold wordS; rw [if_neg (fun z => z hg1), if_neg (fun z => z hg2), if_pos h8]]
        refine jr_1 jm_235 (show jw_cd cd_235 194 = some (.iload_n 2) by decide +kernel) rfl ?_
        refine jr_1 jm_235 (show jw_cd cd_235 195 = some (.iconst (-1)) by decide +kernel) rfl ?_
        refine jr_1 jm_235 (show jw_cd cd_235 196 = some (.if_icmp .eq 7) by decide +kernel) (mb_t (q := .eq) (a := wg1 s) (b := -1) (t := 203) hg1 r1 ⟨by omega, by omega⟩ (by decide) (by decide)) ?_
        refine jr_1 jm_235 (show jw_cd cd_235 203 = some (.iload_n 3) by decide +kernel) rfl ?_
        refine jr_1 jm_235 (show jw_cd cd_235 204 = some (.iconst (-1)) by decide +kernel) rfl ?_
        refine jr_1 jm_235 (show jw_cd cd_235 205 = some (.if_icmp .eq 7) by decide +kernel) (mb_t (q := .eq) (a := wg2 s) (b := -1) (t := 212) hg2 r2 ⟨by omega, by omega⟩ (by decide) (by decide)) ?_
        refine jr_1 jm_235 (show jw_cd cd_235 212 = some (.lload_n 0) by decide +kernel) rfl ?_
        refine jr_1 jm_235 (show jw_cd cd_235 213 = some (.bipush 116) by decide +kernel) (mt_bi (by decide)) ?_
        refine jr_1 jm_235 (show jw_cd cd_235 215 = some (.bipush 121) by decide +kernel) (mt_bi (by decide)) ?_
        refine jr_1 jm_235 (show jw_cd cd_235 217 = some (.bipush 112) by decide +kernel) (mt_bi (by decide)) ?_
        refine jr_1 jm_235 (show jw_cd cd_235 219 = some (.bipush 101) by decide +kernel) (mt_bi (by decide)) ?_
        refine jr_1 jm_235 (show jw_cd cd_235 221 = some (.iconst 0) by decide +kernel) rfl ?_
        refine jr_1 jm_235 (show jw_cd cd_235 222 = some (.iconst 0) by decide +kernel) rfl ?_
        refine jr_1 jm_235 (show jw_cd cd_235 223 = some (.iconst 0) by decide +kernel) rfl ?_
        refine jr_c jm_235 (show jw_cd cd_235 224 = some (.invokestatic 225) by decide +kernel) (mc_s (n := 7) (m2 := 236) (bs := [.int (Int32.ofInt (116)), .int (Int32.ofInt (121)), .int (Int32.ofInt (112)), .int (Int32.ofInt (101)), .int (Int32.ofInt (0)), .int (Int32.ofInt (0)), .int (Int32.ofInt (0))]) (r := [.long (Int64.ofInt (pk s))]) (by decide) (show jw_find jw_csT 34 225 = some (236, 7) by decide +kernel) rfl rfl rfl) jm_236 ⟨Nat.le_of_ble_eq_true rfl, by decide⟩ (jn_packed hl ⟨by decide, by decide⟩ ⟨by decide, by decide⟩ ⟨by decide, by decide⟩ ⟨by decide, by decide⟩ ⟨by decide, by decide⟩ ⟨by decide, by decide⟩ ⟨by decide, by decide⟩) ?_
        rw [wd8_p]
        refine jr_1 jm_235 (show jw_cd cd_235 227 = some (.lcmp) by decide +kernel) (mt_cmp (r := (if pk s < pk wd8 then (-1 : Int) else if pk s = pk wd8 then 0 else 1)) ⟨by have := (pk_b hs).1; omega, by have := (pk_b hs).2; omega⟩ ⟨by have := (pk_b wd8_t).1; omega, by have := (pk_b wd8_t).2; omega⟩ rfl) ?_
        refine jr_1 jm_235 (show jw_cd cd_235 228 = some (.ifCond .ne 8) by decide +kernel) (mz_f (q := .ne) (a := (if pk s < pk wd8 then (-1 : Int) else if pk s = pk wd8 then 0 else 1)) (fun z => z ((wd_cmp hs wd8_t).1 h8)) ⟨by have := (wd_cmp hs wd8_t).2.2.2; omega, by have := (wd_cmp hs wd8_t).2.2.1; omega⟩ (by decide)) ?_
        refine jr_1 jm_235 (show jw_cd cd_235 231 = some (.bipush 8) by decide +kernel) (mt_bi (by decide)) ?_
        refine jr_1 jm_235 (show jw_cd cd_235 233 = some (.goto 4) by decide +kernel) (ju_go (t := 237) (by decide)) ?_
        exact jr_v jm_235 (show jw_cd cd_235 237 = some (.ireturn) by decide +kernel) rfl
      · rw [show wordS s = -1 from by unfold wordS; rw [if_neg (fun z => z hg1), if_neg (fun z => z hg2), if_neg h8]]
        refine jr_1 jm_235 (show jw_cd cd_235 194 = some (.iload_n 2) by decide +kernel) rfl ?_
        refine jr_1 jm_235 (show jw_cd cd_235 195 = some (.iconst (-1)) by decide +kernel) rfl ?_
        refine jr_1 jm_235 (show jw_cd cd_235 196 = some (.if_icmp .eq 7) by decide +kernel) (mb_t (q := .eq) (a := wg1 s) (b := -1) (t := 203) hg1 r1 ⟨by omega, by omega⟩ (by decide) (by decide)) ?_
        refine jr_1 jm_235 (show jw_cd cd_235 203 = some (.iload_n 3) by decide +kernel) rfl ?_
        refine jr_1 jm_235 (show jw_cd cd_235 204 = some (.iconst (-1)) by decide +kernel) rfl ?_
        refine jr_1 jm_235 (show jw_cd cd_235 205 = some (.if_icmp .eq 7) by decide +kernel) (mb_t (q := .eq) (a := wg2 s) (b := -1) (t := 212) hg2 r2 ⟨by omega, by omega⟩ (by decide) (by decide)) ?_
        refine jr_1 jm_235 (show jw_cd cd_235 212 = some (.lload_n 0) by decide +kernel) rfl ?_
        refine jr_1 jm_235 (show jw_cd cd_235 213 = some (.bipush 116) by decide +kernel) (mt_bi (by decide)) ?_
        refine jr_1 jm_235 (show jw_cd cd_235 215 = some (.bipush 121) by decide +kernel) (mt_bi (by decide)) ?_
        refine jr_1 jm_235 (show jw_cd cd_235 217 = some (.bipush 112) by decide +kernel) (mt_bi (by decide)) ?_
        refine jr_1 jm_235 (show jw_cd cd_235 219 = some (.bipush 101) by decide +kernel) (mt_bi (by decide)) ?_
        refine jr_1 jm_235 (show jw_cd cd_235 221 = some (.iconst 0) by decide +kernel) rfl ?_
        refine jr_1 jm_235 (show jw_cd cd_235 222 = some (.iconst 0) by decide +kernel) rfl ?_
        refine jr_1 jm_235 (show jw_cd cd_235 223 = some (.iconst 0) by decide +kernel) rfl ?_
        refine jr_c jm_235 (show jw_cd cd_235 224 = some (.invokestatic 225) by decide +kernel) (mc_s (n := 7) (m2 := 236) (bs := [.int (Int32.ofInt (116)), .int (Int32.ofInt (121)), .int (Int32.ofInt (112)), .int (Int32.ofInt (101)), .int (Int32.ofInt (0)), .int (Int32.ofInt (0)), .int (Int32.ofInt (0))]) (r := [.long (Int64.ofInt (pk s))]) (by decide) (show jw_find jw_csT 34 225 = some (236, 7) by decide +kernel) rfl rfl rfl) jm_236 ⟨Nat.le_of_ble_eq_true rfl, by decide⟩ (jn_packed hl ⟨by decide, by decide⟩ ⟨by decide, by decide⟩ ⟨by decide, by decide⟩ ⟨by decide, by decide⟩ ⟨by decide, by decide⟩ ⟨by decide, by decide⟩ ⟨by decide, by decide⟩) ?_
        rw [wd8_p]
        refine jr_1 jm_235 (show jw_cd cd_235 227 = some (.lcmp) by decide +kernel) (mt_cmp (r := (if pk s < pk wd8 then (-1 : Int) else if pk s = pk wd8 then 0 else 1)) ⟨by have := (pk_b hs).1; omega, by have := (pk_b hs).2; omega⟩ ⟨by have := (pk_b wd8_t).1; omega, by have := (pk_b wd8_t).2; omega⟩ rfl) ?_
        refine jr_1 jm_235 (show jw_cd cd_235 228 = some (.ifCond .ne 8) by decide +kernel) (mz_t (q := .ne) (a := (if pk s < pk wd8 then (-1 : Int) else if pk s = pk wd8 then 0 else 1)) (t := 236) ((wd_cmp hs wd8_t).2.1 h8) ⟨by have := (wd_cmp hs wd8_t).2.2.2; omega, by have := (wd_cmp hs wd8_t).2.2.1; omega⟩ (by decide) (by decide)) ?_
        refine jr_1 jm_235 (show jw_cd cd_235 236 = some (.iconst (-1)) by decide +kernel) rfl ?_
        exact jr_v jm_235 (show jw_cd cd_235 237 = some (.ireturn) by decide +kernel) rfl
    · rw [show wordS s = wg2 s from by unfold wordS; rw [if_neg (fun z => z hg1), if_pos hg2]]
      refine jr_1 jm_235 (show jw_cd cd_235 194 = some (.iload_n 2) by decide +kernel) rfl ?_
      refine jr_1 jm_235 (show jw_cd cd_235 195 = some (.iconst (-1)) by decide +kernel) rfl ?_
      refine jr_1 jm_235 (show jw_cd cd_235 196 = some (.if_icmp .eq 7) by decide +kernel) (mb_t (q := .eq) (a := wg1 s) (b := -1) (t := 203) hg1 r1 ⟨by omega, by omega⟩ (by decide) (by decide)) ?_
      refine jr_1 jm_235 (show jw_cd cd_235 203 = some (.iload_n 3) by decide +kernel) rfl ?_
      refine jr_1 jm_235 (show jw_cd cd_235 204 = some (.iconst (-1)) by decide +kernel) rfl ?_
      refine jr_1 jm_235 (show jw_cd cd_235 205 = some (.if_icmp .eq 7) by decide +kernel) (mb_f (q := .eq) (a := wg2 s) (b := -1) (fun z => hg2 z) r2 ⟨by omega, by omega⟩ (by decide)) ?_
      refine jr_1 jm_235 (show jw_cd cd_235 208 = some (.iload_n 3) by decide +kernel) rfl ?_
      refine jr_1 jm_235 (show jw_cd cd_235 209 = some (.goto 28) by decide +kernel) (ju_go (t := 237) (by decide)) ?_
      exact jr_v jm_235 (show jw_cd cd_235 237 = some (.ireturn) by decide +kernel) rfl
  · rw [show wordS s = wg1 s from by unfold wordS; rw [if_pos hg1]]
    refine jr_1 jm_235 (show jw_cd cd_235 194 = some (.iload_n 2) by decide +kernel) rfl ?_
    refine jr_1 jm_235 (show jw_cd cd_235 195 = some (.iconst (-1)) by decide +kernel) rfl ?_
    refine jr_1 jm_235 (show jw_cd cd_235 196 = some (.if_icmp .eq 7) by decide +kernel) (mb_f (q := .eq) (a := wg1 s) (b := -1) (fun z => hg1 z) r1 ⟨by omega, by omega⟩ (by decide)) ?_
    refine jr_1 jm_235 (show jw_cd cd_235 199 = some (.iload_n 2) by decide +kernel) rfl ?_
    refine jr_1 jm_235 (show jw_cd cd_235 200 = some (.goto 37) by decide +kernel) (ju_go (t := 237) (by decide)) ?_
    exact jr_v jm_235 (show jw_cd cd_235 237 = some (.ireturn) by decide +kernel) rfl
