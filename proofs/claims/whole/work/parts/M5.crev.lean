/-! ===== the class: reversed, of a text (printed by program: gen133.py) ===== -/
theorem jm_192 : jw_M 192 = some (10, 4, ((Option.some (Jvm.ClassFile.FieldType.object "java/lang/String")), false), jw_cd cd_192, fun _ _ => none) := rfl
theorem jm_193 : jw_M 193 = some (15, 1, ((Option.some (Jvm.ClassFile.FieldType.array Jvm.ClassFile.FieldType.char)), false), jw_cd cd_193, fun _ _ => none) := rfl
theorem jm_194 : jw_M 194 = some (14, 2, ((Option.some (Jvm.ClassFile.FieldType.array Jvm.ClassFile.FieldType.char)), false), jw_cd cd_194, fun _ _ => none) := rfl
theorem jm_195 : jw_M 195 = some (14, 6, (none, false), jw_cd cd_195, fun _ _ => none) := rfl
theorem jm_198 : jw_M 198 = some (15, 2, (none, true), jw_cd cd_198, fun _ _ => none) := rfl
theorem jm_199 : jw_M 199 = some (15, 6, (none, true), jw_cd cd_199, fun _ _ => none) := rfl
theorem jm_200 : jw_M 200 = some (5, 6, ((Option.some (Jvm.ClassFile.FieldType.array Jvm.ClassFile.FieldType.byte)), false), jw_cd cd_200, fun _ _ => none) := rfl
theorem jm_201 : jw_M 201 = some (5, 7, ((Option.some Jvm.ClassFile.FieldType.int), false), jw_cd cd_201, fun _ _ => none) := rfl
theorem jm_89 : jw_M 89 = some (5, 2, ((Option.some Jvm.ClassFile.FieldType.byte), false), jw_cd cd_89, fun _ _ => none) := rfl
theorem csC {β : Bool} {cd : Nat → Option Instr} {own pc : Nat} {rt : Option FieldType × Bool} {lo : jx_L} {st : List Value} {H H' : jx_H} {a n : Nat} {g : Nat → Value} {i x : Int} (ho : H[a]? = some (.inl (2, n, g))) (ha : a < jx_big) (hn : n ≤ 2000000000) (h0 : 0 ≤ i) (h1 : i < n) (hx : 0 ≤ x ∧ x ≤ 65535) (hs : H.set a (.inl (2, n, updV g i.toNat (.int (Int32.ofInt x)))) = H') : jx_do (jz β) cd own pc rt .castore lo (.int (Int32.ofInt x) :: .int (Int32.ofInt i) :: .ref a :: st) H = some (.inl (pc + 1, lo, st, H')) := by
  obtain ⟨k1, k2⟩ := ci_nat hn h0 h1
  have e := js_ast (T := jz β) (ok := fun ty => match ty with | .char => true | _ => false) (pc := pc) (lo := lo) (st := st) (v := .int (Int32.ofInt x)) ho ha (ty := .char) rfl rfl rfl k1
  rw [narrow_of_fits (fitC hx), k2, hs] at e
  exact e
theorem mt_us0 {β : Bool} {cd : Nat → Option Instr} {own pc : Nat} {rt : Option FieldType × Bool} {lo : jx_L} {st : List Value} {H : jx_H} : jx_do (jz β) cd own pc rt .iushr lo (.int (Int32.ofInt 31) :: .int (Int32.ofInt 0) :: st) H = some (.inl (pc + 1, lo, .int (Int32.ofInt 0) :: st, H)) := by
  simp only [jx_do, show ((Int32.ofInt 0).toUInt32 >>> ((Int32.ofInt 31).toUInt32 &&& Int32.toUInt32 31)).toInt32 = Int32.ofInt 0 by decide]
theorem cl_appL {h : jx_H} {κ : mS} (hl : 15 ≤ h.length) (L : List jx_C) : cl_mk (h ++ L) κ = cl_mk h κ ++ L := by
  unfold cl_mk
  rw [List.drop_append_of_le_length hl, List.append_assoc]
theorem arr_ext {β : Bool} {h : jx_H} {κ : mS} (hl : 50 ≤ h.length) (L : List jx_C) {b : Nat} {y : Nat × Nat × (Nat → Value)} (hq : jx_arr (jz β) (cl_mk h κ) b = some y) : jx_arr (jz β) (cl_mk (h ++ L) κ) b = some y := by
  rw [cl_appL (by omega) L]
  unfold jx_arr at hq ⊢
  by_cases hb : b < jx_big
  · rw [if_pos hb] at hq ⊢
    cases hc : (cl_mk h κ)[b]? with
    | none => rw [hc] at hq; cases hq
    | some c =>
      rw [hc] at hq
      rw [List.getElem?_append_left (List.getElem?_eq_some_iff.mp hc).1, hc]
      exact hq
  · rw [if_neg hb] at hq ⊢
    exact hq
theorem prg {β : Bool} {H : jx_H} : jx_cls (jz β) H (jx_big + 9) = some 9 ∧ jx_get (jz β) H (jx_big + 9) 0 = some (.ref (jx_big + 29)) ∧ jx_get (jz β) H (jx_big + 9) 1 = some (.int (Int32.ofInt 0)) := by
  have hn : ¬ jx_big + 9 < jx_big := by omega
  have e : jx_big + 9 - jx_big = 9 + 0 := by omega
  obtain ⟨p1, p2, p3⟩ := jw_prg 0 (by decide)
  have c1 : jx_ocl (jz β) (9 + 0) = some 9 := p1
  have c2 : jx_ofl (jz β) (9 + 0) 0 = _ := p2
  have c3 : jx_ofl (jz β) (9 + 0) 1 = _ := p3
  refine ⟨?_, ?_, ?_⟩
  · unfold jx_cls
    rw [if_neg hn, e, c1]
  · unfold jx_get
    rw [if_neg hn, e, c2]
  · unfold jx_get
    rw [if_neg hn, e, c3]
    rfl
theorem prg0c {β : Bool} {H : jx_H} : jx_cls (jz β) H (jx_big + 9) = some 9 := prg.1
theorem prg00 {β : Bool} {H : jx_H} : jx_get (jz β) H (jx_big + 9) 0 = some (.ref (jx_big + 29)) := prg.2.1
theorem prg01 {β : Bool} {H : jx_H} : jx_get (jz β) H (jx_big + 9) 1 = some (.int (Int32.ofInt 0)) := prg.2.2
theorem jc_inTx {β : Bool} {d : Nat} {h : jx_H} {κ : mS} (hl : 50 ≤ h.length) {N : Nat} (hN : h.length = N) (hb32 : N < 2900000000) {n b : Nat} {g : Nat → Value} (hn : n ≤ 100) (qa : ∀ f, jx_arr (jz β) (cl_mk (h ++ [.inl (2, n, f)]) κ) b = some (3, n, g)) (hg : ∀ j, j < n → ∃ c : Int, g j = .int (Int32.ofInt c) ∧ 0 ≤ c ∧ c ≤ 127) : ∀ (m i : Nat) (f : Nat → Value), i + m = n → ∃ f' : Nat → Value, jx_r (jz β) jw_M (d) 195 (3, [some (.ref b), some (.int (Int32.ofInt (((i : Nat) : Int)))), some (.ref N), some (.int (Int32.ofInt (((i : Nat) : Int)))), some (.int (Int32.ofInt (((n : Nat) : Int)))), some (.int (Int32.ofInt (((i : Nat) : Int))))], [], (cl_mk (h ++ [.inl (2, n, f)]) κ)) (cl_mk (h ++ [.inl (2, n, f')]) (κ), .inl none) := by
  intro m
  induction m with
  | zero =>
    intro i f hi
    refine ⟨f, ?_⟩
    refine jr_1 jm_195 (show jw_cd cd_195 3 = some (.iload 5) by decide +kernel) rfl ?_
    refine jr_1 jm_195 (show jw_cd cd_195 5 = some (.iload 4) by decide +kernel) rfl ?_
    refine jr_1 jm_195 (show jw_cd cd_195 7 = some (.if_icmp .ge 26) by decide +kernel) (mb_t (q := .ge) (a := ((i : Nat) : Int)) (b := ((n : Nat) : Int)) (t := 33) (by show ((n : Nat) : Int) ≤ ((i : Nat) : Int); omega) ⟨by omega, by omega⟩ ⟨by omega, by omega⟩ (by decide) (by decide)) ?_
    exact jr_v jm_195 (show jw_cd cd_195 33 = some (.return_) by decide +kernel) rfl
  | succ m ih =>
    intro i f hi
    obtain ⟨c, ec, c0, c1⟩ := hg i (by omega)
    obtain ⟨f', r1⟩ := ih (i + 1) (updV f (((i : Nat) : Int)).toNat (.int (Int32.ofInt c))) (by omega)
    refine ⟨f', ?_⟩
    refine jr_1 jm_195 (show jw_cd cd_195 3 = some (.iload 5) by decide +kernel) rfl ?_
    refine jr_1 jm_195 (show jw_cd cd_195 5 = some (.iload 4) by decide +kernel) rfl ?_
    refine jr_1 jm_195 (show jw_cd cd_195 7 = some (.if_icmp .ge 26) by decide +kernel) (mb_f (q := .ge) (a := ((i : Nat) : Int)) (b := ((n : Nat) : Int)) (by show ¬ (((n : Nat) : Int) ≤ ((i : Nat) : Int)); omega) ⟨by omega, by omega⟩ ⟨by omega, by omega⟩ (by decide)) ?_
    refine jr_1 jm_195 (show jw_cd cd_195 10 = some (.aload_n 2) by decide +kernel) rfl ?_
    refine jr_1 jm_195 (show jw_cd cd_195 11 = some (.iload_n 3) by decide +kernel) rfl ?_
    refine jr_1 jm_195 (F2 := (15, [some (.ref b), some (.int (Int32.ofInt (((i : Nat) : Int)))), some (.ref N), some (.int (Int32.ofInt (((i : Nat) : Int) + 1))), some (.int (Int32.ofInt (((n : Nat) : Int)))), some (.int (Int32.ofInt (((i : Nat) : Int))))], [.int (Int32.ofInt (((i : Nat) : Int))), .ref N], (cl_mk (h ++ [.inl (2, n, f)]) κ))) (show jw_cd cd_195 12 = some (.iinc 3 1) by decide +kernel) (mt_inc (a := ((i : Nat) : Int)) (c := ((i : Nat) : Int) + 1) rfl (by omega) rfl) ?_
    refine jr_1 jm_195 (show jw_cd cd_195 15 = some (.aload_n 0) by decide +kernel) rfl ?_
    refine jr_1 jm_195 (show jw_cd cd_195 16 = some (.iload_n 1) by decide +kernel) rfl ?_
    refine jr_1 jm_195 (F2 := (20, [some (.ref b), some (.int (Int32.ofInt (((i : Nat) : Int) + 1))), some (.ref N), some (.int (Int32.ofInt (((i : Nat) : Int) + 1))), some (.int (Int32.ofInt (((n : Nat) : Int)))), some (.int (Int32.ofInt (((i : Nat) : Int))))], [.int (Int32.ofInt (((i : Nat) : Int))), .ref b, .int (Int32.ofInt (((i : Nat) : Int))), .ref N], (cl_mk (h ++ [.inl (2, n, f)]) κ))) (show jw_cd cd_195 17 = some (.iinc 1 1) by decide +kernel) (mt_inc (a := ((i : Nat) : Int)) (c := ((i : Nat) : Int) + 1) rfl (by omega) rfl) ?_
    refine jr_1 jm_195 (show jw_cd cd_195 20 = some (.baload) by decide +kernel) (cal_b (e := .int (Int32.ofInt c)) (qa f) (by omega) (by omega) (by omega) (by rw [Int.toNat_natCast]; exact ec)) ?_
    refine jr_1 jm_195 (show jw_cd cd_195 21 = some (.sipush 255) by decide +kernel) (mt_si (by decide)) ?_
    refine jr_1 jm_195 (show jw_cd cd_195 24 = some (.iand) by decide +kernel) (mt_and255 ⟨by omega, by omega⟩) ?_
    refine jr_1 jm_195 (show jw_cd cd_195 25 = some (.i2c) by decide +kernel) (mt_i2c ⟨by omega, by omega⟩) ?_
    refine jr_1 jm_195 (F2 := (27, [some (.ref b), some (.int (Int32.ofInt (((i : Nat) : Int) + 1))), some (.ref N), some (.int (Int32.ofInt (((i : Nat) : Int) + 1))), some (.int (Int32.ofInt (((n : Nat) : Int)))), some (.int (Int32.ofInt (((i : Nat) : Int))))], [], (cl_mk (h ++ [.inl (2, n, updV (f) (((i : Nat) : Int)).toNat (.int (Int32.ofInt (c))))]) κ))) (show jw_cd cd_195 26 = some (.castore) by decide +kernel) (csC (ap_get hl hN 0 rfl) (jbg (by omega)) (by omega) (by omega) (by omega) ⟨by omega, by omega⟩ (ap_set hl hN 0 rfl)) ?_
    refine jr_1 jm_195 (F2 := (30, [some (.ref b), some (.int (Int32.ofInt (((i : Nat) : Int) + 1))), some (.ref N), some (.int (Int32.ofInt (((i : Nat) : Int) + 1))), some (.int (Int32.ofInt (((n : Nat) : Int)))), some (.int (Int32.ofInt (((i : Nat) : Int) + 1)))], [], (cl_mk (h ++ [.inl (2, n, updV (f) (((i : Nat) : Int)).toNat (.int (Int32.ofInt (c))))]) κ))) (show jw_cd cd_195 27 = some (.iinc 5 1) by decide +kernel) (mt_inc (a := ((i : Nat) : Int)) (c := ((i : Nat) : Int) + 1) rfl (by omega) rfl) ?_
    refine jr_1 jm_195 (show jw_cd cd_195 30 = some (.goto (-27)) by decide +kernel) (ju_go (t := 3) (by decide)) ?_
    exact r1
theorem jc_infl {β : Bool} {d : Nat} {h : jx_H} {κ : mS} (hl : 50 ≤ h.length) {N : Nat} (hN : h.length = N) (hb32 : N < 2900000000) {n b : Nat} {g : Nat → Value} (hn : n ≤ 100) (qa : ∀ f, jx_arr (jz β) (cl_mk (h ++ [.inl (2, n, f)]) κ) b = some (3, n, g)) (hg : ∀ j, j < n → ∃ c : Int, g j = .int (Int32.ofInt c) ∧ 0 ≤ c ∧ c ≤ 127) (f : Nat → Value) : ∃ f' : Nat → Value, jx_r (jz β) jw_M (d) 195 (0, [some (.ref b), some (.int (Int32.ofInt (0))), some (.ref N), some (.int (Int32.ofInt (0))), some (.int (Int32.ofInt (((n : Nat) : Int)))), none], [], (cl_mk (h ++ [.inl (2, n, f)]) κ)) (cl_mk (h ++ [.inl (2, n, f')]) (κ), .inl none) := by
  obtain ⟨f', r1⟩ := jc_inTx (β := β) (d := d) hl hN hb32 hn qa hg n 0 f (by omega)
  refine ⟨f', ?_⟩
  refine jr_1 jm_195 (show jw_cd cd_195 0 = some (.iconst 0) by decide +kernel) rfl ?_
  refine jr_1 jm_195 (F2 := (3, [some (.ref b), some (.int (Int32.ofInt (0))), some (.ref N), some (.int (Int32.ofInt (0))), some (.int (Int32.ofInt (((n : Nat) : Int)))), some (.int (Int32.ofInt (0)))], [], (cl_mk (h ++ [.inl (2, n, f)]) κ))) (show jw_cd cd_195 1 = some (.istore 5) by decide +kernel) rfl ?_
  exact r1
theorem jc_toC {β : Bool} {d : Nat} {h : jx_H} {κ : mS} (hl : 50 ≤ h.length) {N : Nat} (hN : h.length = N) (hb32 : N < 2900000000) {n b : Nat} {g : Nat → Value} (hn : n ≤ 100) (qa : jx_arr (jz β) (cl_mk h κ) b = some (3, n, g)) (hg : ∀ j, j < n → ∃ c : Int, g j = .int (Int32.ofInt c) ∧ 0 ≤ c ∧ c ≤ 127) : ∃ f' : Nat → Value, jx_r (jz β) jw_M (d + 1) 194 (0, [some (.ref b), none], [], (cl_mk h κ)) (cl_mk (h ++ [.inl (2, n, f')]) (κ), .inl (some (.ref (N)))) := by
  obtain ⟨f', r1⟩ := jc_infl (β := β) (d := d) (κ := κ) hl hN hb32 hn (fun f => arr_ext hl _ qa) hg (fun _ => .int 0)
  refine ⟨f', ?_⟩
  refine jr_1 jm_194 (show jw_cd cd_194 0 = some (.aload_n 0) by decide +kernel) rfl ?_
  refine jr_1 jm_194 (show jw_cd cd_194 1 = some (.arraylength) by decide +kernel) (cln qa (by decide)) ?_
  refine jr_1 jm_194 (F2 := (4, [some (.ref b), none], [.ref N], (cl_mk (h ++ [.inl (2, n, fun _ => .int 0)]) κ))) (show jw_cd cd_194 2 = some (.newarray .char) by decide +kernel) (cna_char0 hl hN (by omega) (by omega) (by omega)) ?_
  refine jr_1 jm_194 (F2 := (5, [some (.ref b), some (.ref N)], [], (cl_mk (h ++ [.inl (2, n, fun _ => .int 0)]) κ))) (show jw_cd cd_194 4 = some (.astore_n 1) by decide +kernel) rfl ?_
  refine jr_1 jm_194 (show jw_cd cd_194 5 = some (.aload_n 0) by decide +kernel) rfl ?_
  refine jr_1 jm_194 (show jw_cd cd_194 6 = some (.iconst 0) by decide +kernel) rfl ?_
  refine jr_1 jm_194 (show jw_cd cd_194 7 = some (.aload_n 1) by decide +kernel) rfl ?_
  refine jr_1 jm_194 (show jw_cd cd_194 8 = some (.iconst 0) by decide +kernel) rfl ?_
  refine jr_1 jm_194 (show jw_cd cd_194 9 = some (.aload_n 0) by decide +kernel) rfl ?_
  refine jr_1 jm_194 (show jw_cd cd_194 10 = some (.arraylength) by decide +kernel) (cln (arr_ext hl _ qa) (by decide)) ?_
  refine jr_c jm_194 (show jw_cd cd_194 11 = some (.invokestatic 13) by decide +kernel) (mc_s (n := 5) (m2 := 195) (bs := [.ref b, .int (Int32.ofInt (0)), .ref N, .int (Int32.ofInt (0)), .int (Int32.ofInt (((n : Nat) : Int)))]) (r := []) (by decide) (show jw_find jw_csT 14 13 = some (195, 5) by decide +kernel) rfl rfl rfl) jm_195 ⟨Nat.le_of_ble_eq_true rfl, by decide⟩ r1 ?_
  refine jr_1 jm_194 (show jw_cd cd_194 14 = some (.aload_n 1) by decide +kernel) rfl ?_
  exact jr_v jm_194 (show jw_cd cd_194 15 = some (.areturn) by decide +kernel) rfl
theorem jc_tcA {β : Bool} {d : Nat} {h : jx_H} {κ : mS} (hl : 50 ≤ h.length) {N : Nat} (hN : h.length = N) (hb32 : N < 2900000000) {X : Nat → Prop} {t n : Nat} {s : List Int} (ht : strR h X t s) (en : s.length = n) (hm : s.length ≤ 100) (hc : ∀ c ∈ s, 0 ≤ c ∧ c ≤ 127) : ∃ f' : Nat → Value, jx_r (jz β) jw_M (d + 2) 193 (0, [some (.ref t)], [], (cl_mk h κ)) (cl_mk (h ++ [.inl (2, n, f')]) (κ), .inl (some (.ref (N)))) := by
  obtain ⟨qc, qs, b, f, q0, q1, qa, qf⟩ := strR_q (β := β) (κ := κ) hl ht
  rw [en] at qa
  obtain ⟨f', r1⟩ := jc_toC (β := β) (d := d) (κ := κ) hl hN hb32 (by omega) qa (fun j hj => ⟨_, qf j (by omega), getD_mem hc (by omega)⟩)
  refine ⟨f', ?_⟩
  refine jr_1 jm_193 (show jw_cd cd_193 0 = some (.aload_n 0) by decide +kernel) rfl ?_
  refine jr_c jm_193 (show jw_cd cd_193 1 = some (.invokevirtual 492) by decide +kernel) (ccv (n := 0) (m2 := 188) (ci := 9) (a := t) (bs := []) (r := []) qc (show jw_find jw_cvT 15 492 = some (0, [(9, 188)]) by decide +kernel) (by decide) rfl rfl rfl) jm_188 ⟨Nat.le_of_ble_eq_true rfl, by decide⟩ (jc_sLat hl ht hm hc) ?_
  refine jr_1 jm_193 (show jw_cd cd_193 4 = some (.ifCond .eq 13) by decide +kernel) (mz_f (q := .eq) (a := 1) (by show ¬ (1 = 0); omega) ⟨by omega, by omega⟩ (by decide)) ?_
  refine jr_1 jm_193 (show jw_cd cd_193 7 = some (.aload_n 0) by decide +kernel) rfl ?_
  refine jr_1 jm_193 (show jw_cd cd_193 8 = some (.getfield 9) by decide +kernel) (cgf qc (show jw_fld 15 9 9 = some 0 by decide +kernel) q0) ?_
  refine jr_c jm_193 (show jw_cd cd_193 11 = some (.invokestatic 299) by decide +kernel) (mc_s (n := 1) (m2 := 194) (bs := [.ref b]) (r := []) (by decide) (show jw_find jw_csT 15 299 = some (194, 1) by decide +kernel) rfl rfl rfl) jm_194 ⟨Nat.le_of_ble_eq_true rfl, by decide⟩ r1 ?_
  refine jr_1 jm_193 (show jw_cd cd_193 14 = some (.goto 10) by decide +kernel) (ju_go (t := 24) (by decide)) ?_
  exact jr_v jm_193 (show jw_cd cd_193 24 = some (.areturn) by decide +kernel) rfl
theorem jc_rvTx {β : Bool} {d : Nat} {h : jx_H} {κ : mS} (hl : 50 ≤ h.length) {N : Nat} (hN : h.length = N) (hb32 : N < 2900000000) {X : Nat → Prop} {t n : Nat} {s : List Int} (ht : strR h X t s) (en : s.length = n) (hm : s.length ≤ 100) (hc : ∀ c ∈ s, 0 ≤ c ∧ c ≤ 127) : ∀ (m i : Nat) (f : Nat → Value), i + m = n → (∀ j, j < i → f j = .int (Int32.ofInt (s.getD (n - 1 - j) 0))) → ∃ f' : Nat → Value, (∀ j, j < n → f' j = .int (Int32.ofInt (s.getD (n - 1 - j) 0))) ∧ ∀ res, jx_r (jz β) jw_M (d + 4) 192 (32, [some (.ref 11), some (.ref t), some (.ref N), some (.int (Int32.ofInt (((n : Nat) : Int))))], [], (cl_mk (h ++ [.inl (2, n, f')]) κ)) res → jx_r (jz β) jw_M (d + 4) 192 (7, [some (.ref 11), some (.ref t), some (.ref N), some (.int (Int32.ofInt (((i : Nat) : Int))))], [], (cl_mk (h ++ [.inl (2, n, f)]) κ)) res := by
  intro m
  induction m with
  | zero =>
    intro i f hi hf
    obtain rfl : i = n := by omega
    refine ⟨f, hf, fun res kk => ?_⟩
    refine jr_1 jm_192 (show jw_cd cd_192 7 = some (.iload_n 3) by decide +kernel) rfl ?_
    refine jr_1 jm_192 (show jw_cd cd_192 8 = some (.aload_n 2) by decide +kernel) rfl ?_
    refine jr_1 jm_192 (show jw_cd cd_192 9 = some (.arraylength) by decide +kernel) (cln (jx_ar_h (ap_get hl hN 0 rfl) (jbg (by omega))) (by decide)) ?_
    refine jr_1 jm_192 (show jw_cd cd_192 10 = some (.if_icmp .ge 22) by decide +kernel) (mb_t (q := .ge) (a := ((i : Nat) : Int)) (b := ((i : Nat) : Int)) (t := 32) (by show ((i : Nat) : Int) ≤ ((i : Nat) : Int); omega) ⟨by omega, by omega⟩ ⟨by omega, by omega⟩ (by decide) (by decide)) ?_
    exact kk
  | succ m ih =>
    intro i f hi hf
    have hl1 : 50 ≤ (h ++ [.inl (2, n, f)] : jx_H).length := by rw [List.length_append]; omega
    have ht1 : strR (h ++ [.inl (2, n, f)]) X t s := strR_fr ext_q ht
    obtain ⟨qc, qs, b, g, q0, q1, qa, qf⟩ := strR_q (β := β) (κ := κ) hl1 ht1
    obtain ⟨j, ej⟩ : ∃ j, j = n - 1 - i := ⟨_, rfl⟩
    have hj : j < s.length := by omega
    have hcj := getD_mem hc hj
    obtain ⟨f', r0, r1⟩ := ih (i + 1) (updV f (((i : Nat) : Int)).toNat (.int (Int32.ofInt (s.getD j 0)))) (by omega) (fun z hz => by
      rw [Int.toNat_natCast]
      by_cases e : z = i
      · rw [e, updV_at, ej]
      · rw [updV_ne _ _ e]
        exact hf z (by omega))
    refine ⟨f', r0, fun res kk => ?_⟩
    refine jr_1 jm_192 (show jw_cd cd_192 7 = some (.iload_n 3) by decide +kernel) rfl ?_
    refine jr_1 jm_192 (show jw_cd cd_192 8 = some (.aload_n 2) by decide +kernel) rfl ?_
    refine jr_1 jm_192 (show jw_cd cd_192 9 = some (.arraylength) by decide +kernel) (cln (jx_ar_h (ap_get hl hN 0 rfl) (jbg (by omega))) (by decide)) ?_
    refine jr_1 jm_192 (show jw_cd cd_192 10 = some (.if_icmp .ge 22) by decide +kernel) (mb_f (q := .ge) (a := ((i : Nat) : Int)) (b := ((n : Nat) : Int)) (by show ¬ (((n : Nat) : Int) ≤ ((i : Nat) : Int)); omega) ⟨by omega, by omega⟩ ⟨by omega, by omega⟩ (by decide)) ?_
    refine jr_1 jm_192 (show jw_cd cd_192 13 = some (.aload_n 2) by decide +kernel) rfl ?_
    refine jr_1 jm_192 (show jw_cd cd_192 14 = some (.iload_n 3) by decide +kernel) rfl ?_
    refine jr_1 jm_192 (show jw_cd cd_192 15 = some (.aload_n 1) by decide +kernel) rfl ?_
    refine jr_1 jm_192 (show jw_cd cd_192 16 = some (.aload_n 2) by decide +kernel) rfl ?_
    refine jr_1 jm_192 (show jw_cd cd_192 17 = some (.arraylength) by decide +kernel) (cln (jx_ar_h (ap_get hl hN 0 rfl) (jbg (by omega))) (by decide)) ?_
    refine jr_1 jm_192 (show jw_cd cd_192 18 = some (.iconst 1) by decide +kernel) rfl ?_
    refine jr_1 jm_192 (show jw_cd cd_192 19 = some (.isub) by decide +kernel) (mt_sub (c := ((n : Nat) : Int) - 1) rfl) ?_
    refine jr_1 jm_192 (show jw_cd cd_192 20 = some (.iload_n 3) by decide +kernel) rfl ?_
    refine jr_1 jm_192 (show jw_cd cd_192 21 = some (.isub) by decide +kernel) (mt_sub (c := ((j : Nat) : Int)) (by omega)) ?_
    refine jr_c jm_192 (show jw_cd cd_192 22 = some (.invokevirtual 142) by decide +kernel) (ccv (n := 1) (m2 := 187) (ci := 9) (a := t) (bs := [.int (Int32.ofInt (((j : Nat) : Int)))]) (r := [.int (Int32.ofInt (((i : Nat) : Int))), .ref N]) qc (show jw_find jw_cvT 10 142 = some (1, [(9, 187)]) by decide +kernel) (by decide) rfl rfl rfl) jm_187 ⟨Nat.le_of_ble_eq_true rfl, by decide⟩ (jc_strAt hl1 ht1 hm hc hj) ?_
    refine jr_1 jm_192 (F2 := (26, [some (.ref 11), some (.ref t), some (.ref N), some (.int (Int32.ofInt (((i : Nat) : Int))))], [], (cl_mk (h ++ [.inl (2, n, updV (f) (((i : Nat) : Int)).toNat (.int (Int32.ofInt (s.getD j 0))))]) κ))) (show jw_cd cd_192 25 = some (.castore) by decide +kernel) (csC (ap_get hl hN 0 rfl) (jbg (by omega)) (by omega) (by omega) (by omega) ⟨by omega, by omega⟩ (ap_set hl hN 0 rfl)) ?_
    refine jr_1 jm_192 (F2 := (29, [some (.ref 11), some (.ref t), some (.ref N), some (.int (Int32.ofInt (((i : Nat) : Int) + 1)))], [], (cl_mk (h ++ [.inl (2, n, updV (f) (((i : Nat) : Int)).toNat (.int (Int32.ofInt (s.getD j 0))))]) κ))) (show jw_cd cd_192 26 = some (.iinc 3 1) by decide +kernel) (mt_inc (a := ((i : Nat) : Int)) (c := ((i : Nat) : Int) + 1) rfl (by omega) rfl) ?_
    refine jr_1 jm_192 (show jw_cd cd_192 29 = some (.goto (-22)) by decide +kernel) (ju_go (t := 7) (by decide)) ?_
    exact r1 res kk
theorem jc_cpL {β : Bool} {d : Nat} {h : jx_H} {κ : mS} (hl : 50 ≤ h.length) {N : Nat} (hN : h.length = N) (hb32 : N < 2900000000) {n : Nat} {f : Nat → Value} {cc : jx_C} {z : Nat → Int} (hn : n ≤ 100) (hf : ∀ j, j < n → f j = .int (Int32.ofInt (z j))) (hz : ∀ j, j < n → 0 ≤ z j ∧ z j ≤ 127) : ∀ (m i : Nat) (w : Nat → Value) (t6 : Option Value), i + m = n → (∀ j, j < i → w j = .int (Int32.ofInt (z j))) → ∃ w' : Nat → Value, (∀ j, j < n → w' j = .int (Int32.ofInt (z j))) ∧ jx_r (jz β) jw_M (d) 201 (3, [some (.ref N), some (.int (Int32.ofInt (((i : Nat) : Int)))), some (.ref (N + 2)), some (.int (Int32.ofInt (((i : Nat) : Int)))), some (.int (Int32.ofInt (((n : Nat) : Int)))), some (.int (Int32.ofInt (((i : Nat) : Int)))), t6], [], (cl_mk (h ++ [.inl (2, n, f), cc, .inl (3, n, w)]) κ)) (cl_mk (h ++ [.inl (2, n, f), cc, .inl (3, n, w')]) (κ), .inl (some (.int (Int32.ofInt (((n : Nat) : Int)))))) := by
  intro m
  induction m with
  | zero =>
    intro i w t6 hi hw
    refine ⟨w, fun j hj => hw j (by omega), ?_⟩
    refine jr_1 jm_201 (show jw_cd cd_201 3 = some (.iload 5) by decide +kernel) rfl ?_
    refine jr_1 jm_201 (show jw_cd cd_201 5 = some (.iload 4) by decide +kernel) rfl ?_
    refine jr_1 jm_201 (show jw_cd cd_201 7 = some (.if_icmp .ge 37) by decide +kernel) (mb_t (q := .ge) (a := ((i : Nat) : Int)) (b := ((n : Nat) : Int)) (t := 44) (by show ((n : Nat) : Int) ≤ ((i : Nat) : Int); omega) ⟨by omega, by omega⟩ ⟨by omega, by omega⟩ (by decide) (by decide)) ?_
    refine jr_1 jm_201 (show jw_cd cd_201 44 = some (.iload 4) by decide +kernel) rfl ?_
    exact jr_v jm_201 (show jw_cd cd_201 46 = some (.ireturn) by decide +kernel) rfl
  | succ m ih =>
    intro i w t6 hi hw
    have hzi := hz i (by omega)
    obtain ⟨w', r0, r1⟩ := ih (i + 1) (updV w (((i : Nat) : Int)).toNat (.int (Int32.ofInt (z i)))) (some (.int (Int32.ofInt (z i)))) (by omega) (fun q hq => by
      rw [Int.toNat_natCast]
      by_cases e : q = i
      · rw [e, updV_at]
      · rw [updV_ne _ _ e]
        exact hw q (by omega))
    refine ⟨w', r0, ?_⟩
    refine jr_1 jm_201 (show jw_cd cd_201 3 = some (.iload 5) by decide +kernel) rfl ?_
    refine jr_1 jm_201 (show jw_cd cd_201 5 = some (.iload 4) by decide +kernel) rfl ?_
    refine jr_1 jm_201 (show jw_cd cd_201 7 = some (.if_icmp .ge 37) by decide +kernel) (mb_f (q := .ge) (a := ((i : Nat) : Int)) (b := ((n : Nat) : Int)) (by show ¬ (((n : Nat) : Int) ≤ ((i : Nat) : Int)); omega) ⟨by omega, by omega⟩ ⟨by omega, by omega⟩ (by decide)) ?_
    refine jr_1 jm_201 (show jw_cd cd_201 10 = some (.aload_n 0) by decide +kernel) rfl ?_
    refine jr_1 jm_201 (show jw_cd cd_201 11 = some (.iload_n 1) by decide +kernel) rfl ?_
    refine jr_1 jm_201 (show jw_cd cd_201 12 = some (.caload) by decide +kernel) (cal_c (e := .int (Int32.ofInt (z i))) (jx_ar_h (ap_get hl hN 0 rfl) (jbg (by omega))) (by omega) (by omega) (by omega) (by rw [Int.toNat_natCast]; exact hf i (by omega))) ?_
    refine jr_1 jm_201 (F2 := (15, [some (.ref N), some (.int (Int32.ofInt (((i : Nat) : Int)))), some (.ref (N + 2)), some (.int (Int32.ofInt (((i : Nat) : Int)))), some (.int (Int32.ofInt (((n : Nat) : Int)))), some (.int (Int32.ofInt (((i : Nat) : Int)))), some (.int (Int32.ofInt (z i)))], [], (cl_mk (h ++ [.inl (2, n, f), cc, .inl (3, n, w)]) κ))) (show jw_cd cd_201 13 = some (.istore 6) by decide +kernel) rfl ?_
    refine jr_1 jm_201 (show jw_cd cd_201 15 = some (.iload 6) by decide +kernel) rfl ?_
    refine jr_1 jm_201 (show jw_cd cd_201 17 = some (.sipush 255) by decide +kernel) (mt_si (by decide)) ?_
    refine jr_1 jm_201 (show jw_cd cd_201 20 = some (.if_icmp .le 6) by decide +kernel) (mb_t (q := .le) (a := z i) (b := 255) (t := 26) (by show z i ≤ 255; omega) ⟨by omega, by omega⟩ ⟨by omega, by omega⟩ (by decide) (by decide)) ?_
    refine jr_1 jm_201 (show jw_cd cd_201 26 = some (.aload_n 2) by decide +kernel) rfl ?_
    refine jr_1 jm_201 (show jw_cd cd_201 27 = some (.iload_n 3) by decide +kernel) rfl ?_
    refine jr_1 jm_201 (show jw_cd cd_201 28 = some (.iload 6) by decide +kernel) rfl ?_
    refine jr_1 jm_201 (show jw_cd cd_201 30 = some (.i2b) by decide +kernel) (mt_i2b ⟨by omega, by omega⟩) ?_
    refine jr_1 jm_201 (F2 := (32, [some (.ref N), some (.int (Int32.ofInt (((i : Nat) : Int)))), some (.ref (N + 2)), some (.int (Int32.ofInt (((i : Nat) : Int)))), some (.int (Int32.ofInt (((n : Nat) : Int)))), some (.int (Int32.ofInt (((i : Nat) : Int)))), some (.int (Int32.ofInt (z i)))], [], (cl_mk (h ++ [.inl (2, n, f), cc, .inl (3, n, updV (w) (((i : Nat) : Int)).toNat (.int (Int32.ofInt (z i))))]) κ))) (show jw_cd cd_201 31 = some (.bastore) by decide +kernel) (csB (ap_get hl hN 2 rfl) (jbg (by omega)) (by omega) (by omega) (by omega) ⟨by omega, by omega⟩ (ap_set hl hN 2 rfl)) ?_
    refine jr_1 jm_201 (F2 := (35, [some (.ref N), some (.int (Int32.ofInt (((i : Nat) : Int) + 1))), some (.ref (N + 2)), some (.int (Int32.ofInt (((i : Nat) : Int)))), some (.int (Int32.ofInt (((n : Nat) : Int)))), some (.int (Int32.ofInt (((i : Nat) : Int)))), some (.int (Int32.ofInt (z i)))], [], (cl_mk (h ++ [.inl (2, n, f), cc, .inl (3, n, updV (w) (((i : Nat) : Int)).toNat (.int (Int32.ofInt (z i))))]) κ))) (show jw_cd cd_201 32 = some (.iinc 1 1) by decide +kernel) (mt_inc (a := ((i : Nat) : Int)) (c := ((i : Nat) : Int) + 1) rfl (by omega) rfl) ?_
    refine jr_1 jm_201 (F2 := (38, [some (.ref N), some (.int (Int32.ofInt (((i : Nat) : Int) + 1))), some (.ref (N + 2)), some (.int (Int32.ofInt (((i : Nat) : Int) + 1))), some (.int (Int32.ofInt (((n : Nat) : Int)))), some (.int (Int32.ofInt (((i : Nat) : Int)))), some (.int (Int32.ofInt (z i)))], [], (cl_mk (h ++ [.inl (2, n, f), cc, .inl (3, n, updV (w) (((i : Nat) : Int)).toNat (.int (Int32.ofInt (z i))))]) κ))) (show jw_cd cd_201 35 = some (.iinc 3 1) by decide +kernel) (mt_inc (a := ((i : Nat) : Int)) (c := ((i : Nat) : Int) + 1) rfl (by omega) rfl) ?_
    refine jr_1 jm_201 (F2 := (41, [some (.ref N), some (.int (Int32.ofInt (((i : Nat) : Int) + 1))), some (.ref (N + 2)), some (.int (Int32.ofInt (((i : Nat) : Int) + 1))), some (.int (Int32.ofInt (((n : Nat) : Int)))), some (.int (Int32.ofInt (((i : Nat) : Int) + 1))), some (.int (Int32.ofInt (z i)))], [], (cl_mk (h ++ [.inl (2, n, f), cc, .inl (3, n, updV (w) (((i : Nat) : Int)).toNat (.int (Int32.ofInt (z i))))]) κ))) (show jw_cd cd_201 38 = some (.iinc 5 1) by decide +kernel) (mt_inc (a := ((i : Nat) : Int)) (c := ((i : Nat) : Int) + 1) rfl (by omega) rfl) ?_
    refine jr_1 jm_201 (show jw_cd cd_201 41 = some (.goto (-38)) by decide +kernel) (ju_go (t := 3) (by decide)) ?_
    exact r1
theorem jc_cp1 {β : Bool} {d : Nat} {h : jx_H} {κ : mS} (hl : 50 ≤ h.length) {N : Nat} (hN : h.length = N) (hb32 : N < 2900000000) {n : Nat} {f : Nat → Value} {cc : jx_C} {z : Nat → Int} (hn : n ≤ 100) (hf : ∀ j, j < n → f j = .int (Int32.ofInt (z j))) (hz : ∀ j, j < n → 0 ≤ z j ∧ z j ≤ 127) (w : Nat → Value) : ∃ w' : Nat → Value, (∀ j, j < n → w' j = .int (Int32.ofInt (z j))) ∧ jx_r (jz β) jw_M (d) 201 (0, [some (.ref N), some (.int (Int32.ofInt (0))), some (.ref (N + 2)), some (.int (Int32.ofInt (0))), some (.int (Int32.ofInt (((n : Nat) : Int)))), none, none], [], (cl_mk (h ++ [.inl (2, n, f), cc, .inl (3, n, w)]) κ)) (cl_mk (h ++ [.inl (2, n, f), cc, .inl (3, n, w')]) (κ), .inl (some (.int (Int32.ofInt (((n : Nat) : Int)))))) := by
  obtain ⟨w', r0, r1⟩ := jc_cpL (β := β) (d := d) (κ := κ) (cc := cc) hl hN hb32 hn hf hz n 0 w none (by omega) (fun j hj => absurd hj (Nat.not_lt_zero _))
  refine ⟨w', r0, ?_⟩
  refine jr_1 jm_201 (show jw_cd cd_201 0 = some (.iconst 0) by decide +kernel) rfl ?_
  refine jr_1 jm_201 (F2 := (3, [some (.ref N), some (.int (Int32.ofInt (0))), some (.ref (N + 2)), some (.int (Int32.ofInt (0))), some (.int (Int32.ofInt (((n : Nat) : Int)))), some (.int (Int32.ofInt (0))), none], [], (cl_mk (h ++ [.inl (2, n, f), cc, .inl (3, n, w)]) κ))) (show jw_cd cd_201 1 = some (.istore 5) by decide +kernel) rfl ?_
  exact r1
theorem jc_cp2 {β : Bool} {d : Nat} {h : jx_H} {κ : mS} (hl : 50 ≤ h.length) {N : Nat} (hN : h.length = N) (hb32 : N < 2900000000) {n : Nat} {f : Nat → Value} {cc : jx_C} {z : Nat → Int} (hn : n ≤ 100) (hf : ∀ j, j < n → f j = .int (Int32.ofInt (z j))) (hz : ∀ j, j < n → 0 ≤ z j ∧ z j ≤ 127) : ∃ w' : Nat → Value, (∀ j, j < n → w' j = .int (Int32.ofInt (z j))) ∧ jx_r (jz β) jw_M (d + 1) 200 (0, [some (.ref N), some (.int (Int32.ofInt (0))), some (.int (Int32.ofInt (((n : Nat) : Int)))), none, none, none], [], (cl_mk (h ++ [.inl (2, n, f), cc]) κ)) (cl_mk (h ++ [.inl (2, n, f), cc, .inl (3, n, w')]) (κ), .inl (some (.ref (N + 2)))) := by
  obtain ⟨w', r0, r1⟩ := jc_cp1 (β := β) (d := d) (κ := κ) (cc := cc) hl hN hb32 hn hf hz (fun _ => .int 0)
  refine ⟨w', r0, ?_⟩
  refine jr_1 jm_200 (show jw_cd cd_200 0 = some (.iload_n 2) by decide +kernel) rfl ?_
  refine jr_1 jm_200 (F2 := (3, [some (.ref N), some (.int (Int32.ofInt (0))), some (.int (Int32.ofInt (((n : Nat) : Int)))), none, none, none], [.ref (N + 2)], (cl_mk (h ++ [.inl (2, n, f), cc, .inl (3, n, fun _ => .int 0)]) κ))) (show jw_cd cd_200 1 = some (.newarray .byte) by decide +kernel) (cna_byte hl hN 2 rfl (by omega) (by omega) (by omega)) ?_
  refine jr_1 jm_200 (F2 := (4, [some (.ref N), some (.int (Int32.ofInt (0))), some (.int (Int32.ofInt (((n : Nat) : Int)))), some (.ref (N + 2)), none, none], [], (cl_mk (h ++ [.inl (2, n, f), cc, .inl (3, n, fun _ => .int 0)]) κ))) (show jw_cd cd_200 3 = some (.astore_n 3) by decide +kernel) rfl ?_
  refine jr_1 jm_200 (show jw_cd cd_200 4 = some (.aload_n 0) by decide +kernel) rfl ?_
  refine jr_1 jm_200 (show jw_cd cd_200 5 = some (.iload_n 1) by decide +kernel) rfl ?_
  refine jr_1 jm_200 (show jw_cd cd_200 6 = some (.aload_n 3) by decide +kernel) rfl ?_
  refine jr_1 jm_200 (show jw_cd cd_200 7 = some (.iconst 0) by decide +kernel) rfl ?_
  refine jr_1 jm_200 (show jw_cd cd_200 8 = some (.iload_n 2) by decide +kernel) rfl ?_
  refine jr_c jm_200 (show jw_cd cd_200 9 = some (.invokestatic 115) by decide +kernel) (mc_s (n := 5) (m2 := 201) (bs := [.ref N, .int (Int32.ofInt (0)), .ref (N + 2), .int (Int32.ofInt (0)), .int (Int32.ofInt (((n : Nat) : Int)))]) (r := []) (by decide) (show jw_find jw_csT 5 115 = some (201, 5) by decide +kernel) rfl rfl rfl) jm_201 ⟨Nat.le_of_ble_eq_true rfl, by decide⟩ r1 ?_
  refine jr_1 jm_200 (F2 := (14, [some (.ref N), some (.int (Int32.ofInt (0))), some (.int (Int32.ofInt (((n : Nat) : Int)))), some (.ref (N + 2)), some (.int (Int32.ofInt (((n : Nat) : Int)))), none], [], (cl_mk (h ++ [.inl (2, n, f), cc, .inl (3, n, w')]) κ))) (show jw_cd cd_200 12 = some (.istore 4) by decide +kernel) rfl ?_
  refine jr_1 jm_200 (show jw_cd cd_200 14 = some (.iload 4) by decide +kernel) rfl ?_
  refine jr_1 jm_200 (show jw_cd cd_200 16 = some (.iload_n 2) by decide +kernel) rfl ?_
  refine jr_1 jm_200 (show jw_cd cd_200 17 = some (.if_icmp .eq 40) by decide +kernel) (mb_t (q := .eq) (a := ((n : Nat) : Int)) (b := ((n : Nat) : Int)) (t := 57) (by show ((n : Nat) : Int) = ((n : Nat) : Int); omega) ⟨by omega, by omega⟩ ⟨by omega, by omega⟩ (by decide) (by decide)) ?_
  refine jr_1 jm_200 (show jw_cd cd_200 57 = some (.aload_n 3) by decide +kernel) rfl ?_
  exact jr_v jm_200 (show jw_cd cd_200 58 = some (.areturn) by decide +kernel) rfl
theorem jc_cfl {β : Bool} {d : Nat} {h : jx_H} {κ : mS} (hl : 50 ≤ h.length) {N : Nat} (hN : h.length = N) (hb32 : N < 2900000000) {n : Nat} {f w : Nat → Value} {cc : jx_C} : jx_r (jz β) jw_M (d) 89 (0, [some (.ref (N + 2)), some (.int (Int32.ofInt (((n : Nat) : Int))))], [], (cl_mk (h ++ [.inl (2, n, f), cc, .inl (3, n, w)]) κ)) (cl_mk (h ++ [.inl (2, n, f), cc, .inl (3, n, w)]) (κ), .inl (some (.int (Int32.ofInt (0))))) := by
  refine jr_1 jm_89 (show jw_cd cd_89 0 = some (.iload_n 1) by decide +kernel) rfl ?_
  refine jr_1 jm_89 (show jw_cd cd_89 1 = some (.aload_n 0) by decide +kernel) rfl ?_
  refine jr_1 jm_89 (show jw_cd cd_89 2 = some (.arraylength) by decide +kernel) (cln (jx_ar_h (ap_get hl hN 2 rfl) (jbg (by omega))) (by decide)) ?_
  refine jr_1 jm_89 (show jw_cd cd_89 3 = some (.isub) by decide +kernel) (mt_sub (c := 0) (by omega)) ?_
  refine jr_1 jm_89 (show jw_cd cd_89 4 = some (.bipush 31) by decide +kernel) (mt_bi (by decide)) ?_
  refine jr_1 jm_89 (show jw_cd cd_89 6 = some (.iushr) by decide +kernel) mt_us0 ?_
  refine jr_1 jm_89 (show jw_cd cd_89 7 = some (.i2b) by decide +kernel) (mt_i2b ⟨by omega, by omega⟩) ?_
  exact jr_v jm_89 (show jw_cd cd_89 8 = some (.ireturn) by decide +kernel) rfl
theorem jc_si1 {β : Bool} {d : Nat} {h : jx_H} {κ : mS} (hl : 50 ≤ h.length) {N : Nat} (hN : h.length = N) (hb32 : N < 2900000000) {n : Nat} {f : Nat → Value} {z : Nat → Int} (hn : n ≤ 100) (hn0 : ¬ n = 0) (hf : ∀ j, j < n → f j = .int (Int32.ofInt (z j))) (hz : ∀ j, j < n → 0 ≤ z j ∧ z j ≤ 127) : ∃ w' : Nat → Value, (∀ j, j < n → w' j = .int (Int32.ofInt (z j))) ∧ jx_r (jz β) jw_M (d + 2) 199 (0, [some (.ref (N + 1)), some (.ref N), some (.int (Int32.ofInt (0))), some (.int (Int32.ofInt (((n : Nat) : Int)))), some (.null), none], [], (cl_mk (h ++ [.inl (2, n, f), .inr (9, [.null, .int (Int32.ofInt (0)), .int (Int32.ofInt (0)), .int (Int32.ofInt (0))])]) κ)) (cl_mk (h ++ [.inl (2, n, f), .inr (9, [.ref (N + 2), .int (Int32.ofInt (0)), .int (Int32.ofInt (0)), .int (Int32.ofInt (0))]), .inl (3, n, w')]) (κ), .inl none) := by
  obtain ⟨w', r0, r1⟩ := jc_cp2 (β := β) (d := d) (κ := κ) (cc := .inr (9, [.null, .int (Int32.ofInt (0)), .int (Int32.ofInt (0)), .int (Int32.ofInt (0))])) hl hN hb32 hn hf hz
  refine ⟨w', r0, ?_⟩
  refine jr_1 jm_199 (show jw_cd cd_199 0 = some (.aload_n 0) by decide +kernel) rfl ?_
  refine jr_1 jm_199 (show jw_cd cd_199 1 = some (.invokespecial 1) by decide +kernel) (coi rfl rfl) ?_
  refine jr_1 jm_199 (show jw_cd cd_199 4 = some (.iload_n 3) by decide +kernel) rfl ?_
  refine jr_1 jm_199 (show jw_cd cd_199 5 = some (.ifCond .ne 22) by decide +kernel) (mz_t (q := .ne) (a := ((n : Nat) : Int)) (t := 27) (by show ¬ (((n : Nat) : Int) = 0); omega) ⟨by omega, by omega⟩ (by decide) (by decide)) ?_
  refine jr_1 jm_199 (show jw_cd cd_199 27 = some (.getstatic 38) by decide +kernel) (cgs (v := .int (Int32.ofInt (1))) (by decide) rfl) ?_
  refine jr_1 jm_199 (show jw_cd cd_199 30 = some (.ifCond .eq 28) by decide +kernel) (mz_f (q := .eq) (a := 1) (by show ¬ (1 = 0); omega) ⟨by omega, by omega⟩ (by decide)) ?_
  refine jr_1 jm_199 (show jw_cd cd_199 33 = some (.aload_n 1) by decide +kernel) rfl ?_
  refine jr_1 jm_199 (show jw_cd cd_199 34 = some (.iload_n 2) by decide +kernel) rfl ?_
  refine jr_1 jm_199 (show jw_cd cd_199 35 = some (.iload_n 3) by decide +kernel) rfl ?_
  refine jr_c jm_199 (show jw_cd cd_199 36 = some (.invokestatic 177) by decide +kernel) (mc_s (n := 3) (m2 := 200) (bs := [.ref N, .int (Int32.ofInt (0)), .int (Int32.ofInt (((n : Nat) : Int)))]) (r := []) (by decide) (show jw_find jw_csT 15 177 = some (200, 3) by decide +kernel) rfl rfl rfl) jm_200 ⟨Nat.le_of_ble_eq_true rfl, by decide⟩ r1 ?_
  refine jr_1 jm_199 (F2 := (41, [some (.ref (N + 1)), some (.ref N), some (.int (Int32.ofInt (0))), some (.int (Int32.ofInt (((n : Nat) : Int)))), some (.null), some (.ref (N + 2))], [], (cl_mk (h ++ [.inl (2, n, f), .inr (9, [.null, .int (Int32.ofInt (0)), .int (Int32.ofInt (0)), .int (Int32.ofInt (0))]), .inl (3, n, w')]) κ))) (show jw_cd cd_199 39 = some (.astore 5) by decide +kernel) rfl ?_
  refine jr_1 jm_199 (show jw_cd cd_199 41 = some (.aload_n 0) by decide +kernel) rfl ?_
  refine jr_1 jm_199 (show jw_cd cd_199 42 = some (.aload 5) by decide +kernel) rfl ?_
  refine jr_1 jm_199 (show jw_cd cd_199 44 = some (.iload_n 3) by decide +kernel) rfl ?_
  refine jr_c jm_199 (show jw_cd cd_199 45 = some (.invokestatic 47) by decide +kernel) (mc_s (n := 2) (m2 := 89) (bs := [.ref (N + 2), .int (Int32.ofInt (((n : Nat) : Int)))]) (r := [.ref (N + 1)]) (by decide) (show jw_find jw_csT 15 47 = some (89, 2) by decide +kernel) rfl rfl rfl) jm_89 ⟨Nat.le_of_ble_eq_true rfl, by decide⟩ (jc_cfl hl hN hb32) ?_
  refine jr_1 jm_199 (F2 := (51, [some (.ref (N + 1)), some (.ref N), some (.int (Int32.ofInt (0))), some (.int (Int32.ofInt (((n : Nat) : Int)))), some (.null), some (.ref (N + 2))], [], (cl_mk (h ++ [.inl (2, n, f), .inr (9, [.null, .int (Int32.ofInt (0)), .int (Int32.ofInt (0)), .int (Int32.ofInt (0))]), .inl (3, n, w')]) κ))) (show jw_cd cd_199 48 = some (.putfield 15) by decide +kernel) (cpf (ap_get hl hN 1 rfl) (jbg (by omega)) (show jw_fld 15 15 9 = some 1 by decide +kernel) (show jw_ft 9 1 = some (.byte) from rfl) (show jw_fm 15 9 1 = some true by decide +kernel) (by decide) rfl (ap_set hl hN 1 rfl)) ?_
  refine jr_1 jm_199 (show jw_cd cd_199 51 = some (.aload_n 0) by decide +kernel) rfl ?_
  refine jr_1 jm_199 (show jw_cd cd_199 52 = some (.aload 5) by decide +kernel) rfl ?_
  refine jr_1 jm_199 (F2 := (57, [some (.ref (N + 1)), some (.ref N), some (.int (Int32.ofInt (0))), some (.int (Int32.ofInt (((n : Nat) : Int)))), some (.null), some (.ref (N + 2))], [], (cl_mk (h ++ [.inl (2, n, f), .inr (9, [.ref (N + 2), .int (Int32.ofInt (0)), .int (Int32.ofInt (0)), .int (Int32.ofInt (0))]), .inl (3, n, w')]) κ))) (show jw_cd cd_199 54 = some (.putfield 9) by decide +kernel) (cpf (ap_get hl hN 1 rfl) (jbg (by omega)) (show jw_fld 15 9 9 = some 0 by decide +kernel) (show jw_ft 9 0 = some (.array .byte) from rfl) (show jw_fm 15 9 0 = some true by decide +kernel) rfl rfl (ap_set hl hN 1 rfl)) ?_
  exact jr_v jm_199 (show jw_cd cd_199 57 = some (.return_) by decide +kernel) rfl
theorem jc_si0 {β : Bool} {d : Nat} {h : jx_H} {κ : mS} (hl : 50 ≤ h.length) {N : Nat} (hN : h.length = N) (hb32 : N < 2900000000) {n : Nat} {f : Nat → Value} (hn0 : n = 0) : jx_r (jz β) jw_M (d) 199 (0, [some (.ref (N + 1)), some (.ref N), some (.int (Int32.ofInt (0))), some (.int (Int32.ofInt (((n : Nat) : Int)))), some (.null), none], [], (cl_mk (h ++ [.inl (2, n, f), .inr (9, [.null, .int (Int32.ofInt (0)), .int (Int32.ofInt (0)), .int (Int32.ofInt (0))])]) κ)) (cl_mk (h ++ [.inl (2, n, f), .inr (9, [.ref (jx_big + 29), .int (Int32.ofInt (0)), .int (Int32.ofInt (0)), .int (Int32.ofInt (0))])]) (κ), .inl none) := by
  refine jr_1 jm_199 (show jw_cd cd_199 0 = some (.aload_n 0) by decide +kernel) rfl ?_
  refine jr_1 jm_199 (show jw_cd cd_199 1 = some (.invokespecial 1) by decide +kernel) (coi rfl rfl) ?_
  refine jr_1 jm_199 (show jw_cd cd_199 4 = some (.iload_n 3) by decide +kernel) rfl ?_
  refine jr_1 jm_199 (show jw_cd cd_199 5 = some (.ifCond .ne 22) by decide +kernel) (mz_f (q := .ne) (a := ((n : Nat) : Int)) (by show ¬ (¬ (((n : Nat) : Int) = 0)); omega) ⟨by omega, by omega⟩ (by decide)) ?_
  refine jr_1 jm_199 (show jw_cd cd_199 8 = some (.aload_n 0) by decide +kernel) rfl ?_
  refine jr_1 jm_199 (show jw_cd cd_199 9 = some (.ldc 7) by decide +kernel) (cld (a := jx_big + 9) rfl) ?_
  refine jr_1 jm_199 (show jw_cd cd_199 11 = some (.getfield 9) by decide +kernel) (cgf prg0c (show jw_fld 15 9 9 = some 0 by decide +kernel) prg00) ?_
  refine jr_1 jm_199 (F2 := (17, [some (.ref (N + 1)), some (.ref N), some (.int (Int32.ofInt (0))), some (.int (Int32.ofInt (((n : Nat) : Int)))), some (.null), none], [], (cl_mk (h ++ [.inl (2, n, f), .inr (9, [.ref (jx_big + 29), .int (Int32.ofInt (0)), .int (Int32.ofInt (0)), .int (Int32.ofInt (0))])]) κ))) (show jw_cd cd_199 14 = some (.putfield 9) by decide +kernel) (cpf (ap_get hl hN 1 rfl) (jbg (by omega)) (show jw_fld 15 9 9 = some 0 by decide +kernel) (show jw_ft 9 0 = some (.array .byte) from rfl) (show jw_fm 15 9 0 = some true by decide +kernel) rfl rfl (ap_set hl hN 1 rfl)) ?_
  refine jr_1 jm_199 (show jw_cd cd_199 17 = some (.aload_n 0) by decide +kernel) rfl ?_
  refine jr_1 jm_199 (show jw_cd cd_199 18 = some (.ldc 7) by decide +kernel) (cld (a := jx_big + 9) rfl) ?_
  refine jr_1 jm_199 (show jw_cd cd_199 20 = some (.getfield 15) by decide +kernel) (cgf prg0c (show jw_fld 15 15 9 = some 1 by decide +kernel) prg01) ?_
  refine jr_1 jm_199 (F2 := (26, [some (.ref (N + 1)), some (.ref N), some (.int (Int32.ofInt (0))), some (.int (Int32.ofInt (((n : Nat) : Int)))), some (.null), none], [], (cl_mk (h ++ [.inl (2, n, f), .inr (9, [.ref (jx_big + 29), .int (Int32.ofInt (0)), .int (Int32.ofInt (0)), .int (Int32.ofInt (0))])]) κ))) (show jw_cd cd_199 23 = some (.putfield 15) by decide +kernel) (cpf (ap_get hl hN 1 rfl) (jbg (by omega)) (show jw_fld 15 15 9 = some 1 by decide +kernel) (show jw_ft 9 1 = some (.byte) from rfl) (show jw_fm 15 9 1 = some true by decide +kernel) (by decide) rfl (ap_set hl hN 1 rfl)) ?_
  exact jr_v jm_199 (show jw_cd cd_199 26 = some (.return_) by decide +kernel) rfl
theorem jc_si {β : Bool} {d : Nat} {h : jx_H} {κ : mS} (hl : 50 ≤ h.length) {N : Nat} (hN : h.length = N) (hb32 : N < 2900000000) {X : Nat → Prop} (hx : ∀ c, N ≤ c → ¬ X c) {n : Nat} {f : Nat → Value} {s' : List Int} (hn : n ≤ 100) (en : s'.length = n) (hf : ∀ j, j < n → f j = .int (Int32.ofInt (s'.getD j 0))) (hc : ∀ c ∈ s', 0 ≤ c ∧ c ≤ 127) : ∃ h' : jx_H, jx_r (jz β) jw_M (d + 2) 199 (0, [some (.ref (N + 1)), some (.ref N), some (.int (Int32.ofInt (0))), some (.int (Int32.ofInt (((n : Nat) : Int)))), some (.null), none], [], (cl_mk (h ++ [.inl (2, n, f), .inr (9, [.null, .int (Int32.ofInt (0)), .int (Int32.ofInt (0)), .int (Int32.ofInt (0))])]) κ)) (cl_mk h' (κ), .inl none) ∧ (∃ L : List jx_C, h' = h ++ L ∧ L.length ≤ 3 ∧ cvol L ≤ 4 + 2 * n) ∧ strR h' X (N + 1) s' := by
  by_cases hn0 : n = 0
  · refine ⟨_, jc_si0 (β := β) (d := d + 2) hl hN hb32 hn0, ⟨_, rfl, by show 2 ≤ 3; omega, by show n + (4 + 0) ≤ 4 + 2 * n; omega⟩, Or.inr (Or.inr ⟨⟨by omega, by omega, hx _ (by omega)⟩, List.eq_nil_of_length_eq_zero (by omega), ?_⟩)⟩
    rw [List.getElem?_append_right (by omega), show N + 1 - h.length = 1 by omega]
    rfl
  · obtain ⟨w', r0, r1⟩ := jc_si1 (β := β) (d := d) (κ := κ) hl hN hb32 hn hn0 hf (fun j hj => getD_mem hc (by omega))
    refine ⟨_, r1, ⟨_, rfl, by show 3 ≤ 3; omega, by show n + (4 + (n + 0)) ≤ 4 + 2 * n; omega⟩, Or.inr (Or.inl ⟨⟨by omega, by omega, hx _ (by omega)⟩, N + 2, w', ⟨by omega, by omega, hx _ (by omega)⟩, ?_, ?_, fun i hi => r0 i (by omega)⟩)⟩
    · rw [List.getElem?_append_right (by omega), show N + 1 - h.length = 1 by omega]
      rfl
    · rw [List.getElem?_append_right (by omega), show N + 2 - h.length = 2 by omega, en]
      rfl
theorem jc_s8 {β : Bool} {d : Nat} {h : jx_H} {κ : mS} (hl : 50 ≤ h.length) {N : Nat} (hN : h.length = N) (hb32 : N < 2900000000) {X : Nat → Prop} (hx : ∀ c, N ≤ c → ¬ X c) {n : Nat} {f : Nat → Value} {s' : List Int} (hn : n ≤ 100) (en : s'.length = n) (hf : ∀ j, j < n → f j = .int (Int32.ofInt (s'.getD j 0))) (hc : ∀ c ∈ s', 0 ≤ c ∧ c ≤ 127) : ∃ h' : jx_H, jx_r (jz β) jw_M (d + 3) 198 (0, [some (.ref (N + 1)), some (.ref N)], [], (cl_mk (h ++ [.inl (2, n, f), .inr (9, [.null, .int (Int32.ofInt (0)), .int (Int32.ofInt (0)), .int (Int32.ofInt (0))])]) κ)) (cl_mk h' (κ), .inl none) ∧ (∃ L : List jx_C, h' = h ++ L ∧ L.length ≤ 3 ∧ cvol L ≤ 4 + 2 * n) ∧ strR h' X (N + 1) s' := by
  obtain ⟨h', r1, r2⟩ := jc_si (β := β) (d := d) (κ := κ) hl hN hb32 hx hn en hf hc
  refine ⟨h', ?_, r2⟩
  refine jr_1 jm_198 (show jw_cd cd_198 0 = some (.aload_n 0) by decide +kernel) rfl ?_
  refine jr_1 jm_198 (show jw_cd cd_198 1 = some (.aload_n 1) by decide +kernel) rfl ?_
  refine jr_1 jm_198 (show jw_cd cd_198 2 = some (.iconst 0) by decide +kernel) rfl ?_
  refine jr_1 jm_198 (show jw_cd cd_198 3 = some (.aload_n 1) by decide +kernel) rfl ?_
  refine jr_1 jm_198 (show jw_cd cd_198 4 = some (.arraylength) by decide +kernel) (cln (jx_ar_h (ap_get hl hN 0 rfl) (jbg (by omega))) (by decide)) ?_
  refine jr_1 jm_198 (show jw_cd cd_198 5 = some (.aconst_null) by decide +kernel) rfl ?_
  refine jr_c jm_198 (show jw_cd cd_198 6 = some (.invokespecial 27) by decide +kernel) (ccp (n := 4) (m2 := 199) (ci := 9) (a := N + 1) (bs := [.ref N, .int (Int32.ofInt (0)), .int (Int32.ofInt (((n : Nat) : Int))), .null]) (r := []) (by decide +kernel) (js_cls (ap_get hl hN 1 rfl) (jbg (by omega))) (by decide) (jbg (by omega)) (show jw_find jw_cpT 15 27 = some (4, 199) by decide +kernel) rfl rfl rfl) jm_199 ⟨Nat.le_of_ble_eq_true rfl, by decide⟩ r1 ?_
  exact jr_v jm_198 (show jw_cd cd_198 9 = some (.return_) by decide +kernel) rfl
theorem jc_rev {β : Bool} {d : Nat} {h : jx_H} {κ : mS} (hl : 50 ≤ h.length) {N : Nat} (hN : h.length = N) (hb32 : N < 2900000000) {X : Nat → Prop} (hx : ∀ c, N ≤ c → ¬ X c) {t : Nat} {s : List Int} (ht : strR h X t s) (hm : s.length ≤ 100) (hc : ∀ c ∈ s, 0 ≤ c ∧ c ≤ 127) : ∃ h' : jx_H, jx_r (jz β) jw_M (d + 4) 192 (0, [some (.ref 11), some (.ref t), none, none], [], (cl_mk h κ)) (cl_mk h' (κ), .inl (some (.ref (N + 1)))) ∧ (∃ L : List jx_C, h' = h ++ L ∧ L.length ≤ 3 ∧ cvol L ≤ 4 + 2 * s.length) ∧ strR h' X (N + 1) s.reverse := by
  obtain ⟨n, en⟩ : ∃ n, s.length = n := ⟨_, rfl⟩
  obtain ⟨qc, qs, b, g, q0, q1, qa, qf⟩ := strR_q (β := β) (κ := κ) hl ht
  obtain ⟨f, r1⟩ := jc_tcA (β := β) (d := d + 1) (κ := κ) hl hN hb32 ht en hm hc
  obtain ⟨f', r0, r2⟩ := jc_rvTx (β := β) (d := d) (κ := κ) hl hN hb32 ht en hm hc n 0 f (by omega) (fun j hj => absurd hj (Nat.not_lt_zero _))
  obtain ⟨h', r3, r4⟩ := jc_s8 (β := β) (d := d) (κ := κ) (n := n) (f := f') (s' := s.reverse) hl hN hb32 hx (by omega) (by rw [List.length_reverse]; exact en) (fun j hj => by
    rw [r0 j hj, List.getD_eq_getElem?_getD, List.getD_eq_getElem?_getD, List.getElem?_reverse (by omega), en]) (fun c hm => hc c (List.mem_reverse.mp hm))
  refine ⟨h', ?_, by rw [en]; exact r4⟩
  refine jr_1 jm_192 (show jw_cd cd_192 0 = some (.aload_n 1) by decide +kernel) rfl ?_
  refine jr_c jm_192 (show jw_cd cd_192 1 = some (.invokevirtual 138) by decide +kernel) (ccv (n := 0) (m2 := 193) (ci := 9) (a := t) (bs := []) (r := []) qc (show jw_find jw_cvT 10 138 = some (0, [(9, 193)]) by decide +kernel) (by decide) rfl rfl rfl) jm_193 ⟨Nat.le_of_ble_eq_true rfl, by decide⟩ r1 ?_
  refine jr_1 jm_192 (F2 := (5, [some (.ref 11), some (.ref t), some (.ref N), none], [], (cl_mk (h ++ [.inl (2, n, f)]) κ))) (show jw_cd cd_192 4 = some (.astore_n 2) by decide +kernel) rfl ?_
  refine jr_1 jm_192 (show jw_cd cd_192 5 = some (.iconst 0) by decide +kernel) rfl ?_
  refine jr_1 jm_192 (F2 := (7, [some (.ref 11), some (.ref t), some (.ref N), some (.int (Int32.ofInt (0)))], [], (cl_mk (h ++ [.inl (2, n, f)]) κ))) (show jw_cd cd_192 6 = some (.istore_n 3) by decide +kernel) rfl ?_
  refine r2 _ ?_
  refine jr_1 jm_192 (F2 := (35, [some (.ref 11), some (.ref t), some (.ref N), some (.int (Int32.ofInt (((n : Nat) : Int))))], [.ref (N + 1)], (cl_mk (h ++ [.inl (2, n, f'), .inr (9, [.null, .int (Int32.ofInt (0)), .int (Int32.ofInt (0)), .int (Int32.ofInt (0))])]) κ))) (show jw_cd cd_192 32 = some (.new 56) by decide +kernel) (cnw hl hN 1 rfl (by omega) (show jw_find jw_xcT 10 56 = none by decide +kernel) (show jw_find jw_nwT 10 56 = some 9 by decide +kernel)) ?_
  refine jr_1 jm_192 (show jw_cd cd_192 35 = some (.dup) by decide +kernel) rfl ?_
  refine jr_1 jm_192 (show jw_cd cd_192 36 = some (.aload_n 2) by decide +kernel) rfl ?_
  refine jr_c jm_192 (show jw_cd cd_192 37 = some (.invokespecial 146) by decide +kernel) (ccp (n := 1) (m2 := 198) (ci := 9) (a := N + 1) (bs := [.ref N]) (r := [.ref (N + 1)]) (by decide +kernel) (js_cls (ap_get hl hN 1 rfl) (jbg (by omega))) (by decide) (jbg (by omega)) (show jw_find jw_cpT 10 146 = some (1, 198) by decide +kernel) rfl rfl rfl) jm_198 ⟨Nat.le_of_ble_eq_true rfl, by decide⟩ r3 ?_
  exact jr_v jm_192 (show jw_cd cd_192 40 = some (.areturn) by decide +kernel) rfl
