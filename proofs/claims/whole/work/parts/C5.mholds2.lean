/-! ===== holds, on (printed by program: gen47.py) ===== -/
theorem jn_ho_b {β : Bool} {d : Nat} {h : jx_H} {τ : mS} (hl : 49 ≤ h.length) {A B : Int → Prop} (hA : mIx A) (hB : mIx B) {s e nn : Int} {c5 : Option Value} {a b q : Int} {x y : Option (tI × FT)} (hOa : mO τ A B a x) (hoka : vokO x) (hOb : mO τ A B b y) (hokb : vokO y) : (¬ (kdO x = 3 ∧ kdO y = 3) → ∀ res, jx_r (jz β) jw_M (d + 2) 270 (256, [some (.ref 15), some (.int (Int32.ofInt (s))), some (.int (Int32.ofInt (e))), some (.int (Int32.ofInt (nn))), some (.int (Int32.ofInt (a))), c5, some (.int (Int32.ofInt (b))), some (.int (Int32.ofInt (q))), some (.int (Int32.ofInt (0))), some (.int (Int32.ofInt (0))), some (.int (Int32.ofInt (0))), none], [], ml_mk h τ) res → jx_r (jz β) jw_M (d + 2) 270 (173, [some (.ref 15), some (.int (Int32.ofInt (s))), some (.int (Int32.ofInt (e))), some (.int (Int32.ofInt (nn))), some (.int (Int32.ofInt (a))), c5, some (.int (Int32.ofInt (b))), some (.int (Int32.ofInt (q))), none, none, none, none], [], ml_mk h τ) res) ∧ (kdO x = 3 ∧ kdO y = 3 → ∀ res, jx_r (jz β) jw_M (d + 2) 270 (256, [some (.ref 15), some (.int (Int32.ofInt (s))), some (.int (Int32.ofInt (e))), some (.int (Int32.ofInt (nn))), some (.int (Int32.ofInt (a))), c5, some (.int (Int32.ofInt (b))), some (.int (Int32.ofInt (q))), some (.int (Int32.ofInt (1))), some (.int (Int32.ofInt (nmO x))), some (.int (Int32.ofInt (nmO y))), none], [], ml_mk h τ) res → jx_r (jz β) jw_M (d + 2) 270 (173, [some (.ref 15), some (.int (Int32.ofInt (s))), some (.int (Int32.ofInt (e))), some (.int (Int32.ofInt (nn))), some (.int (Int32.ofInt (a))), c5, some (.int (Int32.ofInt (b))), some (.int (Int32.ofInt (q))), none, none, none, none], [], ml_mk h τ) res) := by
  by_cases hna : nulO x = true
  · have k0 := (nulO_iff x).mp hna
    refine ⟨fun _ res kk => ?_, fun z => by omega⟩
    refine jr_1 jm_270 (show jw_cd cd_270 173 = some (.aload_n 0) by decide +kernel) rfl ?_
    refine jr_1 jm_270 (show jw_cd cd_270 174 = some (.iload 4) by decide +kernel) rfl ?_
    refine jr_c jm_270 (show jw_cd cd_270 176 = some (.invokevirtual 270) by decide +kernel) (mc_v hl (n := 1) (m2 := 263) (bs := [.int (Int32.ofInt (a))]) (r := []) (show jw_find jw_cvT 34 270 = some (1, [(16, 263)]) by decide +kernel) (by decide) rfl rfl rfl) jm_263 ⟨Nat.le_of_ble_eq_true rfl, by decide⟩ (jn_isN1 hl hA hOa hoka hna) ?_
    refine jr_1 jm_270 (show jw_cd cd_270 179 = some (.ifCond .ne 38) by decide +kernel) (mz_t (q := .ne) (a := 1) (t := 217) (by show ¬ (1 = 0); omega) ⟨by omega, by omega⟩ (by decide) (by decide)) ?_
    refine jr_1 jm_270 (show jw_cd cd_270 217 = some (.iconst 0) by decide +kernel) rfl ?_
    refine jr_1 jm_270 (F2 := (220, [some (.ref 15), some (.int (Int32.ofInt (s))), some (.int (Int32.ofInt (e))), some (.int (Int32.ofInt (nn))), some (.int (Int32.ofInt (a))), c5, some (.int (Int32.ofInt (b))), some (.int (Int32.ofInt (q))), some (.int (Int32.ofInt (0))), none, none, none], [], ml_mk h τ)) (show jw_cd cd_270 218 = some (.istore 8) by decide +kernel) rfl ?_
    refine jr_1 jm_270 (show jw_cd cd_270 220 = some (.iload 8) by decide +kernel) rfl ?_
    refine jr_1 jm_270 (show jw_cd cd_270 222 = some (.ifCond .eq 13) by decide +kernel) (mz_t (q := .eq) (a := 0) (t := 235) (by show 0 = 0; omega) ⟨by omega, by omega⟩ (by decide) (by decide)) ?_
    refine jr_1 jm_270 (show jw_cd cd_270 235 = some (.iconst 0) by decide +kernel) rfl ?_
    refine jr_1 jm_270 (F2 := (238, [some (.ref 15), some (.int (Int32.ofInt (s))), some (.int (Int32.ofInt (e))), some (.int (Int32.ofInt (nn))), some (.int (Int32.ofInt (a))), c5, some (.int (Int32.ofInt (b))), some (.int (Int32.ofInt (q))), some (.int (Int32.ofInt (0))), some (.int (Int32.ofInt (0))), none, none], [], ml_mk h τ)) (show jw_cd cd_270 236 = some (.istore 9) by decide +kernel) rfl ?_
    refine jr_1 jm_270 (show jw_cd cd_270 238 = some (.iload 8) by decide +kernel) rfl ?_
    refine jr_1 jm_270 (show jw_cd cd_270 240 = some (.ifCond .eq 13) by decide +kernel) (mz_t (q := .eq) (a := 0) (t := 253) (by show 0 = 0; omega) ⟨by omega, by omega⟩ (by decide) (by decide)) ?_
    refine jr_1 jm_270 (show jw_cd cd_270 253 = some (.iconst 0) by decide +kernel) rfl ?_
    refine jr_1 jm_270 (F2 := (256, [some (.ref 15), some (.int (Int32.ofInt (s))), some (.int (Int32.ofInt (e))), some (.int (Int32.ofInt (nn))), some (.int (Int32.ofInt (a))), c5, some (.int (Int32.ofInt (b))), some (.int (Int32.ofInt (q))), some (.int (Int32.ofInt (0))), some (.int (Int32.ofInt (0))), some (.int (Int32.ofInt (0))), none], [], ml_mk h τ)) (show jw_cd cd_270 254 = some (.istore 10) by decide +kernel) rfl ?_
    exact kk
  have k0 : ¬ kdO x = 0 := fun z => hna ((nulO_iff x).mpr z)
  by_cases hnb : nulO y = true
  · have k1 := (nulO_iff y).mp hnb
    refine ⟨fun _ res kk => ?_, fun z => by omega⟩
    refine jr_1 jm_270 (show jw_cd cd_270 173 = some (.aload_n 0) by decide +kernel) rfl ?_
    refine jr_1 jm_270 (show jw_cd cd_270 174 = some (.iload 4) by decide +kernel) rfl ?_
    refine jr_c jm_270 (show jw_cd cd_270 176 = some (.invokevirtual 270) by decide +kernel) (mc_v hl (n := 1) (m2 := 263) (bs := [.int (Int32.ofInt (a))]) (r := []) (show jw_find jw_cvT 34 270 = some (1, [(16, 263)]) by decide +kernel) (by decide) rfl rfl rfl) jm_263 ⟨Nat.le_of_ble_eq_true rfl, by decide⟩ (jn_isN0 hl hA hOa hoka hna) ?_
    refine jr_1 jm_270 (show jw_cd cd_270 179 = some (.ifCond .ne 38) by decide +kernel) (mz_f (q := .ne) (a := 0) (by show ¬ (¬ (0 = 0)); omega) ⟨by omega, by omega⟩ (by decide)) ?_
    refine jr_1 jm_270 (show jw_cd cd_270 182 = some (.aload_n 0) by decide +kernel) rfl ?_
    refine jr_1 jm_270 (show jw_cd cd_270 183 = some (.iload 6) by decide +kernel) rfl ?_
    refine jr_c jm_270 (show jw_cd cd_270 185 = some (.invokevirtual 270) by decide +kernel) (mc_v hl (n := 1) (m2 := 263) (bs := [.int (Int32.ofInt (b))]) (r := []) (show jw_find jw_cvT 34 270 = some (1, [(16, 263)]) by decide +kernel) (by decide) rfl rfl rfl) jm_263 ⟨Nat.le_of_ble_eq_true rfl, by decide⟩ (jn_isN1 hl hA hOb hokb hnb) ?_
    refine jr_1 jm_270 (show jw_cd cd_270 188 = some (.ifCond .ne 29) by decide +kernel) (mz_t (q := .ne) (a := 1) (t := 217) (by show ¬ (1 = 0); omega) ⟨by omega, by omega⟩ (by decide) (by decide)) ?_
    refine jr_1 jm_270 (show jw_cd cd_270 217 = some (.iconst 0) by decide +kernel) rfl ?_
    refine jr_1 jm_270 (F2 := (220, [some (.ref 15), some (.int (Int32.ofInt (s))), some (.int (Int32.ofInt (e))), some (.int (Int32.ofInt (nn))), some (.int (Int32.ofInt (a))), c5, some (.int (Int32.ofInt (b))), some (.int (Int32.ofInt (q))), some (.int (Int32.ofInt (0))), none, none, none], [], ml_mk h τ)) (show jw_cd cd_270 218 = some (.istore 8) by decide +kernel) rfl ?_
    refine jr_1 jm_270 (show jw_cd cd_270 220 = some (.iload 8) by decide +kernel) rfl ?_
    refine jr_1 jm_270 (show jw_cd cd_270 222 = some (.ifCond .eq 13) by decide +kernel) (mz_t (q := .eq) (a := 0) (t := 235) (by show 0 = 0; omega) ⟨by omega, by omega⟩ (by decide) (by decide)) ?_
    refine jr_1 jm_270 (show jw_cd cd_270 235 = some (.iconst 0) by decide +kernel) rfl ?_
    refine jr_1 jm_270 (F2 := (238, [some (.ref 15), some (.int (Int32.ofInt (s))), some (.int (Int32.ofInt (e))), some (.int (Int32.ofInt (nn))), some (.int (Int32.ofInt (a))), c5, some (.int (Int32.ofInt (b))), some (.int (Int32.ofInt (q))), some (.int (Int32.ofInt (0))), some (.int (Int32.ofInt (0))), none, none], [], ml_mk h τ)) (show jw_cd cd_270 236 = some (.istore 9) by decide +kernel) rfl ?_
    refine jr_1 jm_270 (show jw_cd cd_270 238 = some (.iload 8) by decide +kernel) rfl ?_
    refine jr_1 jm_270 (show jw_cd cd_270 240 = some (.ifCond .eq 13) by decide +kernel) (mz_t (q := .eq) (a := 0) (t := 253) (by show 0 = 0; omega) ⟨by omega, by omega⟩ (by decide) (by decide)) ?_
    refine jr_1 jm_270 (show jw_cd cd_270 253 = some (.iconst 0) by decide +kernel) rfl ?_
    refine jr_1 jm_270 (F2 := (256, [some (.ref 15), some (.int (Int32.ofInt (s))), some (.int (Int32.ofInt (e))), some (.int (Int32.ofInt (nn))), some (.int (Int32.ofInt (a))), c5, some (.int (Int32.ofInt (b))), some (.int (Int32.ofInt (q))), some (.int (Int32.ofInt (0))), some (.int (Int32.ofInt (0))), some (.int (Int32.ofInt (0))), none], [], ml_mk h τ)) (show jw_cd cd_270 254 = some (.istore 10) by decide +kernel) rfl ?_
    exact kk
  have k1 : ¬ kdO y = 0 := fun z => hnb ((nulO_iff y).mpr z)
  cases x with
  | none => exact absurd rfl hna
  | some x =>
    cases y with
    | none => exact absurd rfl hnb
    | some y =>
      obtain ⟨i, F⟩ := x
      obtain ⟨j, E⟩ := y
      obtain ⟨⟨i1, i2, -⟩, hF⟩ := hoka i F rfl
      obtain ⟨⟨j1, j2, -⟩, hE⟩ := hokb j E rfl
      obtain ⟨a1, ⟨n3a, n4a, -⟩, -⟩ := id hOa
      obtain ⟨b1, ⟨n3b, n4b, -⟩, -⟩ := id hOb
      obtain ⟨wa0, wa1⟩ := hA _ a1
      obtain ⟨wb0, wb1⟩ := hA _ b1
      have ki : kdO (some (i, F)) = i.1 := rfl
      have kj : kdO (some (j, E)) = j.1 := rfl
      rw [ki, kj]
      by_cases hi3 : i.1 = 3
      · by_cases hj3 : j.1 = 3
        · refine ⟨fun z => absurd ⟨hi3, hj3⟩ z, fun _ res kk => ?_⟩
          have kk : jx_r (jz β) jw_M (d + 2) 270 (256, [some (.ref 15), some (.int (Int32.ofInt (s))), some (.int (Int32.ofInt (e))), some (.int (Int32.ofInt (nn))), some (.int (Int32.ofInt (a))), c5, some (.int (Int32.ofInt (b))), some (.int (Int32.ofInt (q))), some (.int (Int32.ofInt (1))), some (.int (Int32.ofInt (i.2.1))), some (.int (Int32.ofInt (j.2.1))), none], [], ml_mk h τ) res := kk
          refine jr_1 jm_270 (show jw_cd cd_270 173 = some (.aload_n 0) by decide +kernel) rfl ?_
          refine jr_1 jm_270 (show jw_cd cd_270 174 = some (.iload 4) by decide +kernel) rfl ?_
          refine jr_c jm_270 (show jw_cd cd_270 176 = some (.invokevirtual 270) by decide +kernel) (mc_v hl (n := 1) (m2 := 263) (bs := [.int (Int32.ofInt (a))]) (r := []) (show jw_find jw_cvT 34 270 = some (1, [(16, 263)]) by decide +kernel) (by decide) rfl rfl rfl) jm_263 ⟨Nat.le_of_ble_eq_true rfl, by decide⟩ (jn_isN0 hl hA hOa hoka hna) ?_
          refine jr_1 jm_270 (show jw_cd cd_270 179 = some (.ifCond .ne 38) by decide +kernel) (mz_f (q := .ne) (a := 0) (by show ¬ (¬ (0 = 0)); omega) ⟨by omega, by omega⟩ (by decide)) ?_
          refine jr_1 jm_270 (show jw_cd cd_270 182 = some (.aload_n 0) by decide +kernel) rfl ?_
          refine jr_1 jm_270 (show jw_cd cd_270 183 = some (.iload 6) by decide +kernel) rfl ?_
          refine jr_c jm_270 (show jw_cd cd_270 185 = some (.invokevirtual 270) by decide +kernel) (mc_v hl (n := 1) (m2 := 263) (bs := [.int (Int32.ofInt (b))]) (r := []) (show jw_find jw_cvT 34 270 = some (1, [(16, 263)]) by decide +kernel) (by decide) rfl rfl rfl) jm_263 ⟨Nat.le_of_ble_eq_true rfl, by decide⟩ (jn_isN0 hl hA hOb hokb hnb) ?_
          refine jr_1 jm_270 (show jw_cd cd_270 188 = some (.ifCond .ne 29) by decide +kernel) (mz_f (q := .ne) (a := 0) (by show ¬ (¬ (0 = 0)); omega) ⟨by omega, by omega⟩ (by decide)) ?_
          refine jr_1 jm_270 (show jw_cd cd_270 191 = some (.aload_n 0) by decide +kernel) rfl ?_
          refine jr_1 jm_270 (show jw_cd cd_270 192 = some (.getfield 13) by decide +kernel) (mg_a hl (a := 17) (show jw_fld 34 13 16 = some 3 by decide +kernel) (by decide) (by decide)) ?_
          refine jr_1 jm_270 (show jw_cd cd_270 195 = some (.iload 4) by decide +kernel) rfl ?_
          refine jr_1 jm_270 (show jw_cd cd_270 197 = some (.iaload) by decide +kernel) (ma_i hl (i := a) (e := i.1) 3 (by omega) (by show _ < ((1740 : Nat) : Int); omega) n3a (by decide) (by decide) (by decide)) ?_
          refine jr_1 jm_270 (show jw_cd cd_270 198 = some (.iconst 3) by decide +kernel) rfl ?_
          refine jr_1 jm_270 (show jw_cd cd_270 199 = some (.if_icmp .ne 18) by decide +kernel) (mb_f (q := .ne) (a := i.1) (b := 3) (by show ¬ (¬ (i.1 = 3)); omega) ⟨by omega, by omega⟩ ⟨by omega, by omega⟩ (by decide)) ?_
          refine jr_1 jm_270 (show jw_cd cd_270 202 = some (.aload_n 0) by decide +kernel) rfl ?_
          refine jr_1 jm_270 (show jw_cd cd_270 203 = some (.getfield 13) by decide +kernel) (mg_a hl (a := 17) (show jw_fld 34 13 16 = some 3 by decide +kernel) (by decide) (by decide)) ?_
          refine jr_1 jm_270 (show jw_cd cd_270 206 = some (.iload 6) by decide +kernel) rfl ?_
          refine jr_1 jm_270 (show jw_cd cd_270 208 = some (.iaload) by decide +kernel) (ma_i hl (i := b) (e := j.1) 3 (by omega) (by show _ < ((1740 : Nat) : Int); omega) n3b (by decide) (by decide) (by decide)) ?_
          refine jr_1 jm_270 (show jw_cd cd_270 209 = some (.iconst 3) by decide +kernel) rfl ?_
          refine jr_1 jm_270 (show jw_cd cd_270 210 = some (.if_icmp .ne 7) by decide +kernel) (mb_f (q := .ne) (a := j.1) (b := 3) (by show ¬ (¬ (j.1 = 3)); omega) ⟨by omega, by omega⟩ ⟨by omega, by omega⟩ (by decide)) ?_
          refine jr_1 jm_270 (show jw_cd cd_270 213 = some (.iconst 1) by decide +kernel) rfl ?_
          refine jr_1 jm_270 (show jw_cd cd_270 214 = some (.goto 4) by decide +kernel) (ju_go (t := 218) (by decide)) ?_
          refine jr_1 jm_270 (F2 := (220, [some (.ref 15), some (.int (Int32.ofInt (s))), some (.int (Int32.ofInt (e))), some (.int (Int32.ofInt (nn))), some (.int (Int32.ofInt (a))), c5, some (.int (Int32.ofInt (b))), some (.int (Int32.ofInt (q))), some (.int (Int32.ofInt (1))), none, none, none], [], ml_mk h τ)) (show jw_cd cd_270 218 = some (.istore 8) by decide +kernel) rfl ?_
          refine jr_1 jm_270 (show jw_cd cd_270 220 = some (.iload 8) by decide +kernel) rfl ?_
          refine jr_1 jm_270 (show jw_cd cd_270 222 = some (.ifCond .eq 13) by decide +kernel) (mz_f (q := .eq) (a := 1) (by show ¬ (1 = 0); omega) ⟨by omega, by omega⟩ (by decide)) ?_
          refine jr_1 jm_270 (show jw_cd cd_270 225 = some (.aload_n 0) by decide +kernel) rfl ?_
          refine jr_1 jm_270 (show jw_cd cd_270 226 = some (.getfield 16) by decide +kernel) (mg_a hl (a := 18) (show jw_fld 34 16 16 = some 4 by decide +kernel) (by decide) (by decide)) ?_
          refine jr_1 jm_270 (show jw_cd cd_270 229 = some (.iload 4) by decide +kernel) rfl ?_
          refine jr_1 jm_270 (show jw_cd cd_270 231 = some (.iaload) by decide +kernel) (ma_i hl (i := a) (e := i.2.1) 4 (by omega) (by show _ < ((1740 : Nat) : Int); omega) n4a (by decide) (by decide) (by decide)) ?_
          refine jr_1 jm_270 (show jw_cd cd_270 232 = some (.goto 4) by decide +kernel) (ju_go (t := 236) (by decide)) ?_
          refine jr_1 jm_270 (F2 := (238, [some (.ref 15), some (.int (Int32.ofInt (s))), some (.int (Int32.ofInt (e))), some (.int (Int32.ofInt (nn))), some (.int (Int32.ofInt (a))), c5, some (.int (Int32.ofInt (b))), some (.int (Int32.ofInt (q))), some (.int (Int32.ofInt (1))), some (.int (Int32.ofInt (i.2.1))), none, none], [], ml_mk h τ)) (show jw_cd cd_270 236 = some (.istore 9) by decide +kernel) rfl ?_
          refine jr_1 jm_270 (show jw_cd cd_270 238 = some (.iload 8) by decide +kernel) rfl ?_
          refine jr_1 jm_270 (show jw_cd cd_270 240 = some (.ifCond .eq 13) by decide +kernel) (mz_f (q := .eq) (a := 1) (by show ¬ (1 = 0); omega) ⟨by omega, by omega⟩ (by decide)) ?_
          refine jr_1 jm_270 (show jw_cd cd_270 243 = some (.aload_n 0) by decide +kernel) rfl ?_
          refine jr_1 jm_270 (show jw_cd cd_270 244 = some (.getfield 16) by decide +kernel) (mg_a hl (a := 18) (show jw_fld 34 16 16 = some 4 by decide +kernel) (by decide) (by decide)) ?_
          refine jr_1 jm_270 (show jw_cd cd_270 247 = some (.iload 6) by decide +kernel) rfl ?_
          refine jr_1 jm_270 (show jw_cd cd_270 249 = some (.iaload) by decide +kernel) (ma_i hl (i := b) (e := j.2.1) 4 (by omega) (by show _ < ((1740 : Nat) : Int); omega) n4b (by decide) (by decide) (by decide)) ?_
          refine jr_1 jm_270 (show jw_cd cd_270 250 = some (.goto 4) by decide +kernel) (ju_go (t := 254) (by decide)) ?_
          refine jr_1 jm_270 (F2 := (256, [some (.ref 15), some (.int (Int32.ofInt (s))), some (.int (Int32.ofInt (e))), some (.int (Int32.ofInt (nn))), some (.int (Int32.ofInt (a))), c5, some (.int (Int32.ofInt (b))), some (.int (Int32.ofInt (q))), some (.int (Int32.ofInt (1))), some (.int (Int32.ofInt (i.2.1))), some (.int (Int32.ofInt (j.2.1))), none], [], ml_mk h τ)) (show jw_cd cd_270 254 = some (.istore 10) by decide +kernel) rfl ?_
          exact kk
        · refine ⟨fun _ res kk => ?_, fun z => absurd z.2 hj3⟩
          refine jr_1 jm_270 (show jw_cd cd_270 173 = some (.aload_n 0) by decide +kernel) rfl ?_
          refine jr_1 jm_270 (show jw_cd cd_270 174 = some (.iload 4) by decide +kernel) rfl ?_
          refine jr_c jm_270 (show jw_cd cd_270 176 = some (.invokevirtual 270) by decide +kernel) (mc_v hl (n := 1) (m2 := 263) (bs := [.int (Int32.ofInt (a))]) (r := []) (show jw_find jw_cvT 34 270 = some (1, [(16, 263)]) by decide +kernel) (by decide) rfl rfl rfl) jm_263 ⟨Nat.le_of_ble_eq_true rfl, by decide⟩ (jn_isN0 hl hA hOa hoka hna) ?_
          refine jr_1 jm_270 (show jw_cd cd_270 179 = some (.ifCond .ne 38) by decide +kernel) (mz_f (q := .ne) (a := 0) (by show ¬ (¬ (0 = 0)); omega) ⟨by omega, by omega⟩ (by decide)) ?_
          refine jr_1 jm_270 (show jw_cd cd_270 182 = some (.aload_n 0) by decide +kernel) rfl ?_
          refine jr_1 jm_270 (show jw_cd cd_270 183 = some (.iload 6) by decide +kernel) rfl ?_
          refine jr_c jm_270 (show jw_cd cd_270 185 = some (.invokevirtual 270) by decide +kernel) (mc_v hl (n := 1) (m2 := 263) (bs := [.int (Int32.ofInt (b))]) (r := []) (show jw_find jw_cvT 34 270 = some (1, [(16, 263)]) by decide +kernel) (by decide) rfl rfl rfl) jm_263 ⟨Nat.le_of_ble_eq_true rfl, by decide⟩ (jn_isN0 hl hA hOb hokb hnb) ?_
          refine jr_1 jm_270 (show jw_cd cd_270 188 = some (.ifCond .ne 29) by decide +kernel) (mz_f (q := .ne) (a := 0) (by show ¬ (¬ (0 = 0)); omega) ⟨by omega, by omega⟩ (by decide)) ?_
          refine jr_1 jm_270 (show jw_cd cd_270 191 = some (.aload_n 0) by decide +kernel) rfl ?_
          refine jr_1 jm_270 (show jw_cd cd_270 192 = some (.getfield 13) by decide +kernel) (mg_a hl (a := 17) (show jw_fld 34 13 16 = some 3 by decide +kernel) (by decide) (by decide)) ?_
          refine jr_1 jm_270 (show jw_cd cd_270 195 = some (.iload 4) by decide +kernel) rfl ?_
          refine jr_1 jm_270 (show jw_cd cd_270 197 = some (.iaload) by decide +kernel) (ma_i hl (i := a) (e := i.1) 3 (by omega) (by show _ < ((1740 : Nat) : Int); omega) n3a (by decide) (by decide) (by decide)) ?_
          refine jr_1 jm_270 (show jw_cd cd_270 198 = some (.iconst 3) by decide +kernel) rfl ?_
          refine jr_1 jm_270 (show jw_cd cd_270 199 = some (.if_icmp .ne 18) by decide +kernel) (mb_f (q := .ne) (a := i.1) (b := 3) (by show ¬ (¬ (i.1 = 3)); omega) ⟨by omega, by omega⟩ ⟨by omega, by omega⟩ (by decide)) ?_
          refine jr_1 jm_270 (show jw_cd cd_270 202 = some (.aload_n 0) by decide +kernel) rfl ?_
          refine jr_1 jm_270 (show jw_cd cd_270 203 = some (.getfield 13) by decide +kernel) (mg_a hl (a := 17) (show jw_fld 34 13 16 = some 3 by decide +kernel) (by decide) (by decide)) ?_
          refine jr_1 jm_270 (show jw_cd cd_270 206 = some (.iload 6) by decide +kernel) rfl ?_
          refine jr_1 jm_270 (show jw_cd cd_270 208 = some (.iaload) by decide +kernel) (ma_i hl (i := b) (e := j.1) 3 (by omega) (by show _ < ((1740 : Nat) : Int); omega) n3b (by decide) (by decide) (by decide)) ?_
          refine jr_1 jm_270 (show jw_cd cd_270 209 = some (.iconst 3) by decide +kernel) rfl ?_
          refine jr_1 jm_270 (show jw_cd cd_270 210 = some (.if_icmp .ne 7) by decide +kernel) (mb_t (q := .ne) (a := j.1) (b := 3) (t := 217) (by show ¬ (j.1 = 3); omega) ⟨by omega, by omega⟩ ⟨by omega, by omega⟩ (by decide) (by decide)) ?_
          refine jr_1 jm_270 (show jw_cd cd_270 217 = some (.iconst 0) by decide +kernel) rfl ?_
          refine jr_1 jm_270 (F2 := (220, [some (.ref 15), some (.int (Int32.ofInt (s))), some (.int (Int32.ofInt (e))), some (.int (Int32.ofInt (nn))), some (.int (Int32.ofInt (a))), c5, some (.int (Int32.ofInt (b))), some (.int (Int32.ofInt (q))), some (.int (Int32.ofInt (0))), none, none, none], [], ml_mk h τ)) (show jw_cd cd_270 218 = some (.istore 8) by decide +kernel) rfl ?_
          refine jr_1 jm_270 (show jw_cd cd_270 220 = some (.iload 8) by decide +kernel) rfl ?_
          refine jr_1 jm_270 (show jw_cd cd_270 222 = some (.ifCond .eq 13) by decide +kernel) (mz_t (q := .eq) (a := 0) (t := 235) (by show 0 = 0; omega) ⟨by omega, by omega⟩ (by decide) (by decide)) ?_
          refine jr_1 jm_270 (show jw_cd cd_270 235 = some (.iconst 0) by decide +kernel) rfl ?_
          refine jr_1 jm_270 (F2 := (238, [some (.ref 15), some (.int (Int32.ofInt (s))), some (.int (Int32.ofInt (e))), some (.int (Int32.ofInt (nn))), some (.int (Int32.ofInt (a))), c5, some (.int (Int32.ofInt (b))), some (.int (Int32.ofInt (q))), some (.int (Int32.ofInt (0))), some (.int (Int32.ofInt (0))), none, none], [], ml_mk h τ)) (show jw_cd cd_270 236 = some (.istore 9) by decide +kernel) rfl ?_
          refine jr_1 jm_270 (show jw_cd cd_270 238 = some (.iload 8) by decide +kernel) rfl ?_
          refine jr_1 jm_270 (show jw_cd cd_270 240 = some (.ifCond .eq 13) by decide +kernel) (mz_t (q := .eq) (a := 0) (t := 253) (by show 0 = 0; omega) ⟨by omega, by omega⟩ (by decide) (by decide)) ?_
          refine jr_1 jm_270 (show jw_cd cd_270 253 = some (.iconst 0) by decide +kernel) rfl ?_
          refine jr_1 jm_270 (F2 := (256, [some (.ref 15), some (.int (Int32.ofInt (s))), some (.int (Int32.ofInt (e))), some (.int (Int32.ofInt (nn))), some (.int (Int32.ofInt (a))), c5, some (.int (Int32.ofInt (b))), some (.int (Int32.ofInt (q))), some (.int (Int32.ofInt (0))), some (.int (Int32.ofInt (0))), some (.int (Int32.ofInt (0))), none], [], ml_mk h τ)) (show jw_cd cd_270 254 = some (.istore 10) by decide +kernel) rfl ?_
          exact kk
      · refine ⟨fun _ res kk => ?_, fun z => absurd z.1 hi3⟩
        refine jr_1 jm_270 (show jw_cd cd_270 173 = some (.aload_n 0) by decide +kernel) rfl ?_
        refine jr_1 jm_270 (show jw_cd cd_270 174 = some (.iload 4) by decide +kernel) rfl ?_
        refine jr_c jm_270 (show jw_cd cd_270 176 = some (.invokevirtual 270) by decide +kernel) (mc_v hl (n := 1) (m2 := 263) (bs := [.int (Int32.ofInt (a))]) (r := []) (show jw_find jw_cvT 34 270 = some (1, [(16, 263)]) by decide +kernel) (by decide) rfl rfl rfl) jm_263 ⟨Nat.le_of_ble_eq_true rfl, by decide⟩ (jn_isN0 hl hA hOa hoka hna) ?_
        refine jr_1 jm_270 (show jw_cd cd_270 179 = some (.ifCond .ne 38) by decide +kernel) (mz_f (q := .ne) (a := 0) (by show ¬ (¬ (0 = 0)); omega) ⟨by omega, by omega⟩ (by decide)) ?_
        refine jr_1 jm_270 (show jw_cd cd_270 182 = some (.aload_n 0) by decide +kernel) rfl ?_
        refine jr_1 jm_270 (show jw_cd cd_270 183 = some (.iload 6) by decide +kernel) rfl ?_
        refine jr_c jm_270 (show jw_cd cd_270 185 = some (.invokevirtual 270) by decide +kernel) (mc_v hl (n := 1) (m2 := 263) (bs := [.int (Int32.ofInt (b))]) (r := []) (show jw_find jw_cvT 34 270 = some (1, [(16, 263)]) by decide +kernel) (by decide) rfl rfl rfl) jm_263 ⟨Nat.le_of_ble_eq_true rfl, by decide⟩ (jn_isN0 hl hA hOb hokb hnb) ?_
        refine jr_1 jm_270 (show jw_cd cd_270 188 = some (.ifCond .ne 29) by decide +kernel) (mz_f (q := .ne) (a := 0) (by show ¬ (¬ (0 = 0)); omega) ⟨by omega, by omega⟩ (by decide)) ?_
        refine jr_1 jm_270 (show jw_cd cd_270 191 = some (.aload_n 0) by decide +kernel) rfl ?_
        refine jr_1 jm_270 (show jw_cd cd_270 192 = some (.getfield 13) by decide +kernel) (mg_a hl (a := 17) (show jw_fld 34 13 16 = some 3 by decide +kernel) (by decide) (by decide)) ?_
        refine jr_1 jm_270 (show jw_cd cd_270 195 = some (.iload 4) by decide +kernel) rfl ?_
        refine jr_1 jm_270 (show jw_cd cd_270 197 = some (.iaload) by decide +kernel) (ma_i hl (i := a) (e := i.1) 3 (by omega) (by show _ < ((1740 : Nat) : Int); omega) n3a (by decide) (by decide) (by decide)) ?_
        refine jr_1 jm_270 (show jw_cd cd_270 198 = some (.iconst 3) by decide +kernel) rfl ?_
        refine jr_1 jm_270 (show jw_cd cd_270 199 = some (.if_icmp .ne 18) by decide +kernel) (mb_t (q := .ne) (a := i.1) (b := 3) (t := 217) (by show ¬ (i.1 = 3); omega) ⟨by omega, by omega⟩ ⟨by omega, by omega⟩ (by decide) (by decide)) ?_
        refine jr_1 jm_270 (show jw_cd cd_270 217 = some (.iconst 0) by decide +kernel) rfl ?_
        refine jr_1 jm_270 (F2 := (220, [some (.ref 15), some (.int (Int32.ofInt (s))), some (.int (Int32.ofInt (e))), some (.int (Int32.ofInt (nn))), some (.int (Int32.ofInt (a))), c5, some (.int (Int32.ofInt (b))), some (.int (Int32.ofInt (q))), some (.int (Int32.ofInt (0))), none, none, none], [], ml_mk h τ)) (show jw_cd cd_270 218 = some (.istore 8) by decide +kernel) rfl ?_
        refine jr_1 jm_270 (show jw_cd cd_270 220 = some (.iload 8) by decide +kernel) rfl ?_
        refine jr_1 jm_270 (show jw_cd cd_270 222 = some (.ifCond .eq 13) by decide +kernel) (mz_t (q := .eq) (a := 0) (t := 235) (by show 0 = 0; omega) ⟨by omega, by omega⟩ (by decide) (by decide)) ?_
        refine jr_1 jm_270 (show jw_cd cd_270 235 = some (.iconst 0) by decide +kernel) rfl ?_
        refine jr_1 jm_270 (F2 := (238, [some (.ref 15), some (.int (Int32.ofInt (s))), some (.int (Int32.ofInt (e))), some (.int (Int32.ofInt (nn))), some (.int (Int32.ofInt (a))), c5, some (.int (Int32.ofInt (b))), some (.int (Int32.ofInt (q))), some (.int (Int32.ofInt (0))), some (.int (Int32.ofInt (0))), none, none], [], ml_mk h τ)) (show jw_cd cd_270 236 = some (.istore 9) by decide +kernel) rfl ?_
        refine jr_1 jm_270 (show jw_cd cd_270 238 = some (.iload 8) by decide +kernel) rfl ?_
        refine jr_1 jm_270 (show jw_cd cd_270 240 = some (.ifCond .eq 13) by decide +kernel) (mz_t (q := .eq) (a := 0) (t := 253) (by show 0 = 0; omega) ⟨by omega, by omega⟩ (by decide) (by decide)) ?_
        refine jr_1 jm_270 (show jw_cd cd_270 253 = some (.iconst 0) by decide +kernel) rfl ?_
        refine jr_1 jm_270 (F2 := (256, [some (.ref 15), some (.int (Int32.ofInt (s))), some (.int (Int32.ofInt (e))), some (.int (Int32.ofInt (nn))), some (.int (Int32.ofInt (a))), c5, some (.int (Int32.ofInt (b))), some (.int (Int32.ofInt (q))), some (.int (Int32.ofInt (0))), some (.int (Int32.ofInt (0))), some (.int (Int32.ofInt (0))), none], [], ml_mk h τ)) (show jw_cd cd_270 254 = some (.istore 10) by decide +kernel) rfl ?_
        exact kk
