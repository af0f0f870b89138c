/-! ===== the class: append(int) to the resultText (printed by program: gen99.py) ===== -/
theorem kdg_s : ∀ (f : Nat) (m : Int), 0 ≤ m → m < 10 ^ (f + 1) → kdg (f + 1) m = kdg f m
  | 0, m, h0, h1 => by
    have h1 : m < 10 := h1
    show (if m < 10 then 0 else kdg 0 (m / 10) + 1) = 0
    rw [if_pos h1]
  | f + 1, m, h0, h1 => by
    show (if m < 10 then 0 else kdg (f + 1) (m / 10) + 1) = (if m < 10 then 0 else kdg f (m / 10) + 1)
    by_cases hm : m < 10
    · rw [if_pos hm, if_pos hm]
    · rw [if_neg hm, if_neg hm, kdg_s f (m / 10) (by omega) (by rw [Int.pow_succ] at h1; omega)]
theorem dgk_s (m : Int) : ∀ k : Nat, dgk m (k + 1) = dgk (m / 10) k ++ [48 + m % 10]
  | 0 => by
    show [48 + m / 10 ^ (0 + 1) % 10, 48 + m / 10 ^ 0 % 10] = [48 + m / 10 / 10 ^ 0 % 10, 48 + m % 10]
    rw [show (10 : Int) ^ (0 + 1) = 10 from rfl, show (10 : Int) ^ 0 = 1 from rfl, Int.ediv_one, Int.ediv_one]
  | k + 1 => by
    show (48 + m / 10 ^ (k + 1 + 1) % 10) :: dgk m (k + 1) = ((48 + m / 10 / 10 ^ (k + 1) % 10) :: dgk (m / 10) k) ++ [48 + m % 10]
    rw [dgk_s m k, Int.pow_succ, Int.mul_comm, ← Int.ediv_ediv_of_nonneg (by decide : (0 : Int) ≤ 10)]
    rfl
def dcD (m : Int) : List Int := dgk m (kdg 9 m)
theorem dcD_s {m : Int} (h0 : 10 ≤ m) (h1 : m < 10 ^ 10) : dcD m = dcD (m / 10) ++ [48 + m % 10] := by
  have e : kdg 9 m = kdg 9 (m / 10) + 1 := by
    show (if m < 10 then 0 else kdg 8 (m / 10) + 1) = _
    rw [if_neg (by omega), kdg_s 8 (m / 10) (by omega) (by have : (10 : Int) ^ 10 = 10000000000 := rfl; have : (10 : Int) ^ 9 = 1000000000 := rfl; show m / 10 < 10 ^ 9; omega)]
  unfold dcD
  rw [e, dgk_s]
theorem dcD_1 {m : Int} (h0 : 0 ≤ m) (h1 : m < 10) : dcD m = [48 + m] := by
  have e : kdg 9 m = 0 := if_pos h1
  unfold dcD
  rw [e]
  show [48 + m / 10 ^ 0 % 10] = _
  rw [show (10 : Int) ^ 0 = 1 from rfl, Int.ediv_one, Int.emod_eq_of_lt h0 h1]
theorem dcD_2 {m : Int} (h0 : 10 ≤ m) (h1 : m < 100) : dcD m = [48 + m / 10, 48 + m % 10] := by
  rw [dcD_s h0 (by have : (10 : Int) ^ 10 = 10000000000 := rfl; omega), dcD_1 (by omega) (by omega)]
  rfl
theorem dcD_h {m : Int} (h0 : 100 ≤ m) (h1 : m < 10 ^ 10) : dcD m = dcD (m / 100) ++ [48 + m / 10 % 10, 48 + m % 10] := by
  have e10 : (10 : Int) ^ 10 = 10000000000 := rfl
  rw [dcD_s (by omega) h1, dcD_s (m := m / 10) (by omega) (by omega), List.append_assoc, show m / 10 / 10 = m / 100 by omega]
  rfl
theorem dcD_len (m : Int) : (dcD m).length = kdg 9 m + 1 := dgk_len _ _
theorem dec_D (n : Int) : dec n = if n < 0 then 45 :: dcD (-n) else dcD n := rfl
theorem dcD_ok {m : Int} (h0 : 0 ≤ m) : ∀ k : Nat, ∀ c ∈ dgk m k, 0 ≤ c ∧ c ≤ 127
  | 0 => by
    intro c hc
    rw [show dgk m 0 = [48 + m / 10 ^ 0 % 10] from rfl, List.mem_singleton] at hc
    omega
  | k + 1 => by
    intro c hc
    rw [show dgk m (k + 1) = (48 + m / 10 ^ (k + 1) % 10) :: dgk m k from rfl] at hc
    rcases List.mem_cons.mp hc with e | e
    · generalize m / 10 ^ (k + 1) = z at e
      omega
    · exact dcD_ok h0 k c e
theorem dec_ok {n : Int} : ∀ c ∈ dec n, 0 ≤ c ∧ c ≤ 127 := by
  intro c hc
  rw [dec_D] at hc
  by_cases h : n < 0
  · rw [if_pos h] at hc
    rcases List.mem_cons.mp hc with e | e
    · omega
    · exact dcD_ok (by omega) _ c e
  · rw [if_neg h] at hc
    exact dcD_ok (by omega) _ c hc
theorem dec_len (n : Int) : (dec n).length ≤ 11 := by
  rw [dec_D]
  by_cases h : n < 0
  · rw [if_pos h, List.length_cons, dcD_len]
    have := kdg_le 9 (-n)
    omega
  · rw [if_neg h, dcD_len]
    have := kdg_le 9 n
    omega
theorem i32_div {m : Int} (h0 : 0 ≤ m) (h1 : m ≤ 2147483648) : Int32.ofInt (-m) / Int32.ofInt 100 = Int32.ofInt (-(m / 100)) := by
  apply Int32.toInt_inj.mp
  have e1 : (Int32.ofInt (-m)).toInt = -m := Int32.toInt_ofInt_of_le (by omega) (by show -m < (2 ^ 31 : Int); omega)
  have e2 : (Int32.ofInt 100).toInt = 100 := by decide
  have e3 : (Int32.ofInt (-(m / 100))).toInt = -(m / 100) := Int32.toInt_ofInt_of_le (by omega) (by show -(m / 100) < (2 ^ 31 : Int); omega)
  rw [Int32.toInt_div, e1, e2, e3, Int.neg_tdiv, Int.tdiv_eq_ediv_of_nonneg h0]
  exact Int.bmod_eq_of_le (by show -(2 ^ 32 / 2 : Int) ≤ -(m / 100); omega) (by show -(m / 100) < ((2 ^ 32 : Nat) + 1) / 2; omega)
theorem mt_idiv {β : Bool} {cd : Nat → Option Instr} {own pc : Nat} {rt : Option FieldType × Bool} {lo : jx_L} {st : List Value} {H : jx_H} {m : Int} (h0 : 0 ≤ m) (h1 : m ≤ 2147483648) : jx_do (jz β) cd own pc rt .idiv lo (.int (Int32.ofInt 100) :: .int (Int32.ofInt (-m)) :: st) H = some (.inl (pc + 1, lo, .int (Int32.ofInt (-(m / 100))) :: st, H)) := by
  simp only [jx_do, if_neg (show ¬ Int32.ofInt 100 = 0 by decide), i32_div h0 h1]
theorem jw_dg : ∀ t : Fin 100, jw_D1.getD t.1 0 = Int32.ofInt (48 + (t.1 : Int) % 10) ∧ jw_D2.getD t.1 0 = Int32.ofInt (48 + (t.1 : Int) / 10) := by decide +kernel
theorem jw_dgI {x : Int} (h0 : 0 ≤ x) (h1 : x < 100) : Value.int (jw_D1.getD x.toNat 0) = .int (Int32.ofInt (48 + x % 10)) ∧ Value.int (jw_D2.getD x.toNat 0) = .int (Int32.ofInt (48 + x / 10)) := by
  have a := jw_dg ⟨x.toNat, by omega⟩
  have e : ((x.toNat : Nat) : Int) = x := by omega
  have a1 := a.1
  have a2 := a.2
  show Value.int (jw_D1.getD x.toNat 0) = _ ∧ Value.int (jw_D2.getD x.toNat 0) = _
  rw [a1, a2]
  show Value.int (Int32.ofInt (48 + ((x.toNat : Nat) : Int) % 10)) = _ ∧ Value.int (Int32.ofInt (48 + ((x.toNat : Nat) : Int) / 10)) = _
  rw [e]
  exact ⟨rfl, rfl⟩
theorem jw_d1a {β : Bool} {H : jx_H} : jx_arr (jz β) H (jx_big + 51) = some (3, 100, fun i => .int (jw_D1.getD i 0)) := rfl
theorem jw_d2a {β : Bool} {H : jx_H} : jx_arr (jz β) H (jx_big + 52) = some (3, 100, fun i => .int (jw_D2.getD i 0)) := rfl
theorem js_szL {β : Bool} {d : Nat} {h : jx_H} {κ : mS} (hl : 50 ≤ h.length) {m s : Int} {K : Nat} (hs : s = 0 ∨ s = 1) (h0 : 0 ≤ m) (h1 : m ≤ 2147483648) (hK : 1 ≤ K ∧ K ≤ 10) (hk1 : m < 10 ^ K) (hk2 : 1 < K → (10 : Int) ^ (K - 1) ≤ m) : ∀ (t i : Nat), 1 ≤ i → i + t = K → jx_r (jz β) jw_M (d) 39 (16, [some (.int (Int32.ofInt (-m))), some (.int (Int32.ofInt (s))), some (.int (Int32.ofInt (-(10 ^ i)))), some (.int (Int32.ofInt (((i : Nat) : Int))))], [], (cl_mk h κ)) (cl_mk h (κ), .inl (some (.int (Int32.ofInt (((K : Nat) : Int) + s)))))
  | 0, i, hi, e => by
    obtain rfl : i = K := by omega
    have q := p10 i (by omega)
    by_cases h10 : i = 10
    · subst h10
      refine jr_1 jm_39 (show jw_cd cd_39 16 = some (.iload_n 3) by decide +kernel) rfl ?_
      refine jr_1 jm_39 (show jw_cd cd_39 17 = some (.bipush 10) by decide +kernel) (mt_bi (by decide)) ?_
      refine jr_1 jm_39 (show jw_cd cd_39 19 = some (.if_icmp .ge 23) by decide +kernel) (mb_t (q := .ge) (a := ((10 : Nat) : Int)) (b := 10) (t := 42) (by show 10 ≤ ((10 : Nat) : Int); omega) ⟨by omega, by omega⟩ ⟨by omega, by omega⟩ (by decide) (by decide)) ?_
      refine jr_1 jm_39 (show jw_cd cd_39 42 = some (.bipush 10) by decide +kernel) (mt_bi (by decide)) ?_
      refine jr_1 jm_39 (show jw_cd cd_39 44 = some (.iload_n 1) by decide +kernel) rfl ?_
      refine jr_1 jm_39 (show jw_cd cd_39 45 = some (.iadd) by decide +kernel) (mt_add (c := 10 + s) rfl) ?_
      exact jr_v jm_39 (show jw_cd cd_39 46 = some (.ireturn) by decide +kernel) rfl
    · have q9 := p10m 9 (by omega) i (by omega)
      rw [show (10 : Int) ^ 9 = 1000000000 from rfl] at q9
      refine jr_1 jm_39 (show jw_cd cd_39 16 = some (.iload_n 3) by decide +kernel) rfl ?_
      refine jr_1 jm_39 (show jw_cd cd_39 17 = some (.bipush 10) by decide +kernel) (mt_bi (by decide)) ?_
      refine jr_1 jm_39 (show jw_cd cd_39 19 = some (.if_icmp .ge 23) by decide +kernel) (mb_f (q := .ge) (a := ((i : Nat) : Int)) (b := 10) (by show ¬ (10 ≤ ((i : Nat) : Int)); omega) ⟨by omega, by omega⟩ ⟨by omega, by omega⟩ (by decide)) ?_
      refine jr_1 jm_39 (show jw_cd cd_39 22 = some (.iload_n 0) by decide +kernel) rfl ?_
      refine jr_1 jm_39 (show jw_cd cd_39 23 = some (.iload_n 2) by decide +kernel) rfl ?_
      refine jr_1 jm_39 (show jw_cd cd_39 24 = some (.if_icmp .le 7) by decide +kernel) (mb_f (q := .le) (a := -m) (b := -(10 ^ i)) (by show ¬ (-m ≤ -(10 ^ i)); omega) ⟨by omega, by omega⟩ ⟨by omega, by omega⟩ (by decide)) ?_
      refine jr_1 jm_39 (show jw_cd cd_39 27 = some (.iload_n 3) by decide +kernel) rfl ?_
      refine jr_1 jm_39 (show jw_cd cd_39 28 = some (.iload_n 1) by decide +kernel) rfl ?_
      refine jr_1 jm_39 (show jw_cd cd_39 29 = some (.iadd) by decide +kernel) (mt_add (c := ((i : Nat) : Int) + s) rfl) ?_
      exact jr_v jm_39 (show jw_cd cd_39 30 = some (.ireturn) by decide +kernel) rfl
  | t + 1, i, hi, e => by
    have q := p10 i (by omega)
    have q9 := p10m 9 (by omega) i (by omega)
    rw [show (10 : Int) ^ 9 = 1000000000 from rfl] at q9
    have q1 := p10m (K - 1) (by omega) i (by omega)
    have q2 := hk2 (by omega)
    refine jr_1 jm_39 (show jw_cd cd_39 16 = some (.iload_n 3) by decide +kernel) rfl ?_
    refine jr_1 jm_39 (show jw_cd cd_39 17 = some (.bipush 10) by decide +kernel) (mt_bi (by decide)) ?_
    refine jr_1 jm_39 (show jw_cd cd_39 19 = some (.if_icmp .ge 23) by decide +kernel) (mb_f (q := .ge) (a := ((i : Nat) : Int)) (b := 10) (by show ¬ (10 ≤ ((i : Nat) : Int)); omega) ⟨by omega, by omega⟩ ⟨by omega, by omega⟩ (by decide)) ?_
    refine jr_1 jm_39 (show jw_cd cd_39 22 = some (.iload_n 0) by decide +kernel) rfl ?_
    refine jr_1 jm_39 (show jw_cd cd_39 23 = some (.iload_n 2) by decide +kernel) rfl ?_
    refine jr_1 jm_39 (show jw_cd cd_39 24 = some (.if_icmp .le 7) by decide +kernel) (mb_t (q := .le) (a := -m) (b := -(10 ^ i)) (t := 31) (by show -m ≤ -(10 ^ i); omega) ⟨by omega, by omega⟩ ⟨by omega, by omega⟩ (by decide) (by decide)) ?_
    refine jr_1 jm_39 (show jw_cd cd_39 31 = some (.bipush 10) by decide +kernel) (mt_bi (by decide)) ?_
    refine jr_1 jm_39 (show jw_cd cd_39 33 = some (.iload_n 2) by decide +kernel) rfl ?_
    refine jr_1 jm_39 (show jw_cd cd_39 34 = some (.imul) by decide +kernel) (mt_mul (c := -(10 ^ (i + 1))) (by rw [Int.pow_succ]; omega)) ?_
    refine jr_1 jm_39 (F2 := (36, [some (.int (Int32.ofInt (-m))), some (.int (Int32.ofInt (s))), some (.int (Int32.ofInt (-(10 ^ (i + 1))))), some (.int (Int32.ofInt (((i : Nat) : Int))))], [], (cl_mk h κ))) (show jw_cd cd_39 35 = some (.istore_n 2) by decide +kernel) rfl ?_
    refine jr_1 jm_39 (F2 := (39, [some (.int (Int32.ofInt (-m))), some (.int (Int32.ofInt (s))), some (.int (Int32.ofInt (-(10 ^ (i + 1))))), some (.int (Int32.ofInt (((i : Nat) : Int) + 1)))], [], (cl_mk h κ))) (show jw_cd cd_39 36 = some (.iinc 3 1) by decide +kernel) (mt_inc (a := ((i : Nat) : Int)) (c := ((i : Nat) : Int) + 1) rfl (by omega) rfl) ?_
    refine jr_1 jm_39 (show jw_cd cd_39 39 = some (.goto (-23)) by decide +kernel) (ju_go (t := 16) (by decide)) ?_
    have hr := js_szL (β := β) (d := d) (κ := κ) hl hs h0 h1 hK hk1 hk2 t (i + 1) (by omega) (by omega)
    exact hr
theorem js_sz {β : Bool} {d : Nat} {h : jx_H} {κ : mS} (hl : 50 ≤ h.length) {n : Int} (hn : mr n) : jx_r (jz β) jw_M (d) 39 (0, [some (.int (Int32.ofInt (n))), none, none, none], [], (cl_mk h κ)) (cl_mk h (κ), .inl (some (.int (Int32.ofInt (((dec n).length : Int)))))) := by
  have hn1 := hn.1
  have hn2 := hn.2
  by_cases hx : n < 0
  · have ks := kdg_spec 9 (-n) (by omega) (by show -n < 10 ^ (9 + 1); have : (10 : Int) ^ (9 + 1) = 10000000000 := rfl; omega)
    have kl := kdg_le 9 (-n)
    rw [dec_D, if_pos hx, List.length_cons, dcD_len]
    have hr := js_szL (β := β) (d := d) (κ := κ) hl (m := -n) (s := 1) (K := kdg 9 (-n) + 1) (Or.inr rfl) (by omega) (by omega) (by omega) ks.1 (fun z => by rw [Nat.add_sub_cancel]; exact ks.2 (by omega)) (kdg 9 (-n)) 1 (by omega) (by omega)
    rw [show -(-n) = n by omega, show -((10 : Int) ^ 1) = -10 from rfl] at hr
    refine jr_1 jm_39 (show jw_cd cd_39 0 = some (.iconst 1) by decide +kernel) rfl ?_
    refine jr_1 jm_39 (F2 := (2, [some (.int (Int32.ofInt (n))), some (.int (Int32.ofInt (1))), none, none], [], (cl_mk h κ))) (show jw_cd cd_39 1 = some (.istore_n 1) by decide +kernel) rfl ?_
    refine jr_1 jm_39 (show jw_cd cd_39 2 = some (.iload_n 0) by decide +kernel) rfl ?_
    refine jr_1 jm_39 (show jw_cd cd_39 3 = some (.ifCond .lt 8) by decide +kernel) (mz_t (q := .lt) (a := n) (t := 11) (by show n < 0; omega) ⟨by omega, by omega⟩ (by decide) (by decide)) ?_
    refine jr_1 jm_39 (show jw_cd cd_39 11 = some (.bipush (-10)) by decide +kernel) (mt_bi (by decide)) ?_
    refine jr_1 jm_39 (F2 := (14, [some (.int (Int32.ofInt (n))), some (.int (Int32.ofInt (1))), some (.int (Int32.ofInt (-10))), none], [], (cl_mk h κ))) (show jw_cd cd_39 13 = some (.istore_n 2) by decide +kernel) rfl ?_
    refine jr_1 jm_39 (show jw_cd cd_39 14 = some (.iconst 1) by decide +kernel) rfl ?_
    refine jr_1 jm_39 (F2 := (16, [some (.int (Int32.ofInt (n))), some (.int (Int32.ofInt (1))), some (.int (Int32.ofInt (-10))), some (.int (Int32.ofInt (1)))], [], (cl_mk h κ))) (show jw_cd cd_39 15 = some (.istore_n 3) by decide +kernel) rfl ?_
    exact hr
  · have ks := kdg_spec 9 n (by omega) (by show n < 10 ^ (9 + 1); have : (10 : Int) ^ (9 + 1) = 10000000000 := rfl; omega)
    have kl := kdg_le 9 n
    rw [dec_D, if_neg hx, dcD_len]
    have hr := js_szL (β := β) (d := d) (κ := κ) hl (m := n) (s := 0) (K := kdg 9 n + 1) (Or.inl rfl) (by omega) (by omega) (by omega) ks.1 (fun z => by rw [Nat.add_sub_cancel]; exact ks.2 (by omega)) (kdg 9 n) 1 (by omega) (by omega)
    rw [show -((10 : Int) ^ 1) = -10 from rfl, Int.add_zero] at hr
    refine jr_1 jm_39 (show jw_cd cd_39 0 = some (.iconst 1) by decide +kernel) rfl ?_
    refine jr_1 jm_39 (F2 := (2, [some (.int (Int32.ofInt (n))), some (.int (Int32.ofInt (1))), none, none], [], (cl_mk h κ))) (show jw_cd cd_39 1 = some (.istore_n 1) by decide +kernel) rfl ?_
    refine jr_1 jm_39 (show jw_cd cd_39 2 = some (.iload_n 0) by decide +kernel) rfl ?_
    refine jr_1 jm_39 (show jw_cd cd_39 3 = some (.ifCond .lt 8) by decide +kernel) (mz_f (q := .lt) (a := n) (by show ¬ (n < 0); omega) ⟨by omega, by omega⟩ (by decide)) ?_
    refine jr_1 jm_39 (show jw_cd cd_39 6 = some (.iconst 0) by decide +kernel) rfl ?_
    refine jr_1 jm_39 (F2 := (8, [some (.int (Int32.ofInt (n))), some (.int (Int32.ofInt (0))), none, none], [], (cl_mk h κ))) (show jw_cd cd_39 7 = some (.istore_n 1) by decide +kernel) rfl ?_
    refine jr_1 jm_39 (show jw_cd cd_39 8 = some (.iload_n 0) by decide +kernel) rfl ?_
    refine jr_1 jm_39 (show jw_cd cd_39 9 = some (.ineg) by decide +kernel) (mt_neg (c := -(n)) rfl) ?_
    refine jr_1 jm_39 (F2 := (11, [some (.int (Int32.ofInt (-(n)))), some (.int (Int32.ofInt (0))), none, none], [], (cl_mk h κ))) (show jw_cd cd_39 10 = some (.istore_n 0) by decide +kernel) rfl ?_
    refine jr_1 jm_39 (show jw_cd cd_39 11 = some (.bipush (-10)) by decide +kernel) (mt_bi (by decide)) ?_
    refine jr_1 jm_39 (F2 := (14, [some (.int (Int32.ofInt (-(n)))), some (.int (Int32.ofInt (0))), some (.int (Int32.ofInt (-10))), none], [], (cl_mk h κ))) (show jw_cd cd_39 13 = some (.istore_n 2) by decide +kernel) rfl ?_
    refine jr_1 jm_39 (show jw_cd cd_39 14 = some (.iconst 1) by decide +kernel) rfl ?_
    refine jr_1 jm_39 (F2 := (16, [some (.int (Int32.ofInt (-(n)))), some (.int (Int32.ofInt (0))), some (.int (Int32.ofInt (-10))), some (.int (Int32.ofInt (1)))], [], (cl_mk h κ))) (show jw_cd cd_39 15 = some (.istore_n 3) by decide +kernel) rfl ?_
    exact hr
def q4ok (q : Option Value) : Prop := q = none ∨ ∃ z, q = some (.int z)
theorem st1_5 {a0 a1 a2 a3 q4 a5 a6 : Option Value} {v : Int32} (h : q4ok q4) : jx_st1 [a0, a1, a2, a3, q4, a5, a6] 5 (.int v) = [a0, a1, a2, a3, q4, some (.int v), a6] := by
  rcases h with rfl | ⟨z, rfl⟩ <;> rfl
theorem sb_st1 {h : jx_H} {κ : mS} {r cap : Nat} {fb : Nat → Value} {q : Nat} {w : List Int} {x : Int} (hl : 50 ≤ h.length) (hB : sbB h κ r cap (fbW fb (q + 1) w)) (hx : 0 ≤ x ∧ x ≤ 127) : ∃ (h' : jx_H) (κ' : mS), List.set (cl_mk h κ) r (.inl (3, cap, updV (fbW fb (q + 1) w) (((q : Nat) : Int)).toNat (.int (Int32.ofInt x)))) = cl_mk h' κ' ∧ sbB h' κ' r cap (fbW fb q (x :: w)) ∧ sbF h κ r cap h' κ' r cap ∧ mEq [14] κ κ' ∧ h'.length = h.length := by
  obtain ⟨h', κ', a1, a2, a3, a4, a5⟩ := sb_sto (fb' := updV (fbW fb (q + 1) w) (((q : Nat) : Int)).toNat (.int (Int32.ofInt x))) hl hB (fun i => by
    by_cases hi : i = (((q : Nat) : Int)).toNat
    · subst hi
      exact ⟨x, updV_at _ _ _, hx⟩
    · rw [updV_ne _ _ hi]
      exact hB.2.2.2.2 i)
  refine ⟨h', κ', a1, ?_, a3, a4, a5⟩
  rw [Int.toNat_natCast, fbW_cons] at a2
  exact a2
theorem js_gcT {β : Bool} {d : Nat} {r cap : Nat} {fb : Nat → Value} {ix : Int} {h : jx_H} {κ : mS} {b ng : Nat} {w : List Int} {m : Int} {q3 q4 : Option Value} (hl : 50 ≤ h.length) (hB : sbB h κ r cap (fbW fb (b + ng) w)) (hc : b + ng ≤ cap) (hng : ng = 0 ∨ ng = 1) (hq4 : q4ok q4) : ∃ (h' : jx_H) (κ' : mS), jx_r (jz β) jw_M (d) 40 (104, [some (.int (Int32.ofInt (m))), some (.int (Int32.ofInt (ix))), some (.ref r), q3, q4, some (.int (Int32.ofInt (((b + ng : Nat) : Int)))), some (.int (Int32.ofInt (((ng : Nat) : Int))))], [], (cl_mk h κ)) (cl_mk h' (κ'), .inl (some (.int (Int32.ofInt (((b : Nat) : Int)))))) ∧ sbB h' κ' r cap (fbW fb b ((if ng = 1 then [45] else []) ++ w)) ∧ sbF h κ r cap h' κ' r cap ∧ mEq [14] κ κ' ∧ h'.length = h.length := by
  have hcap := sb_cp hB
  rcases hng with e | e
  · subst e
    refine ⟨h, κ, ?_, hB, sbF_refl, mEq_refl _ _, rfl⟩
    refine jr_1 jm_40 (show jw_cd cd_40 104 = some (.iload 6) by decide +kernel) rfl ?_
    refine jr_1 jm_40 (show jw_cd cd_40 106 = some (.ifCond .eq 12) by decide +kernel) (mz_t (q := .eq) (a := ((0 : Nat) : Int)) (t := 118) (by show ((0 : Nat) : Int) = 0; omega) ⟨by omega, by omega⟩ (by decide) (by decide)) ?_
    refine jr_1 jm_40 (show jw_cd cd_40 118 = some (.iload 5) by decide +kernel) rfl ?_
    exact jr_v jm_40 (show jw_cd cd_40 120 = some (.ireturn) by decide +kernel) rfl
  · subst e
    obtain ⟨h1, κ1, e1, e2, e3, e4, e5⟩ := sb_st1 (x := 45) hl hB (by decide)
    refine ⟨h1, κ1, ?_, e2, e3, e4, e5⟩
    refine jr_1 jm_40 (show jw_cd cd_40 104 = some (.iload 6) by decide +kernel) rfl ?_
    refine jr_1 jm_40 (show jw_cd cd_40 106 = some (.ifCond .eq 12) by decide +kernel) (mz_f (q := .eq) (a := ((1 : Nat) : Int)) (by show ¬ (((1 : Nat) : Int) = 0); omega) ⟨by omega, by omega⟩ (by decide)) ?_
    refine jr_1 jm_40 (show jw_cd cd_40 109 = some (.aload_n 2) by decide +kernel) rfl ?_
    refine jr_1 jm_40 (F2 := (113, [some (.int (Int32.ofInt (m))), some (.int (Int32.ofInt (ix))), some (.ref r), q3, q4, some (.int (Int32.ofInt (((b : Nat) : Int)))), some (.int (Int32.ofInt (((1 : Nat) : Int))))], [.ref r], (cl_mk h κ))) (show jw_cd cd_40 110 = some (.iinc 5 (-1)) by decide +kernel) (mt_inc (a := ((b + 1 : Nat) : Int)) (c := ((b : Nat) : Int)) rfl (by omega) (st1_5 hq4)) ?_
    refine jr_1 jm_40 (show jw_cd cd_40 113 = some (.iload 5) by decide +kernel) rfl ?_
    refine jr_1 jm_40 (show jw_cd cd_40 115 = some (.bipush 45) by decide +kernel) (mt_bi (by decide)) ?_
    refine jr_1 jm_40 (F2 := (118, [some (.int (Int32.ofInt (m))), some (.int (Int32.ofInt (ix))), some (.ref r), q3, q4, some (.int (Int32.ofInt (((b : Nat) : Int)))), some (.int (Int32.ofInt (((1 : Nat) : Int))))], [], (cl_mk h1 κ1))) (show jw_cd cd_40 117 = some (.bastore) by decide +kernel) (csB hB.2.2.1 (jbg (by omega)) (by omega) (by omega) (by omega) ⟨by omega, by omega⟩ e1) ?_
    refine jr_1 jm_40 (show jw_cd cd_40 118 = some (.iload 5) by decide +kernel) rfl ?_
    exact jr_v jm_40 (show jw_cd cd_40 120 = some (.ireturn) by decide +kernel) rfl
theorem js_gcL {β : Bool} {d : Nat} {r cap : Nat} {fb : Nat → Value} {ix : Int} : ∀ (f : Nat) (m : Int) (b ng : Nat) (w : List Int) (h : jx_H) (κ : mS) (q3 q4 : Option Value), q4ok q4 → m.toNat ≤ f → 0 ≤ m → m ≤ 2147483648 → 50 ≤ h.length → sbB h κ r cap (fbW fb (b + ng + (dcD m).length) w) → (b + ng + (dcD m).length) + w.length ≤ cap → (ng = 0 ∨ ng = 1) → ∃ (h' : jx_H) (κ' : mS), jx_r (jz β) jw_M (d) 40 (22, [some (.int (Int32.ofInt (-m))), some (.int (Int32.ofInt (ix))), some (.ref r), q3, q4, some (.int (Int32.ofInt ((((b + ng + (dcD m).length) : Nat) : Int)))), some (.int (Int32.ofInt (((ng : Nat) : Int))))], [], (cl_mk h κ)) (cl_mk h' (κ'), .inl (some (.int (Int32.ofInt (((b : Nat) : Int)))))) ∧ sbB h' κ' r cap (fbW fb b ((if ng = 1 then [45] else []) ++ (dcD m ++ w))) ∧ sbF h κ r cap h' κ' r cap ∧ mEq [14] κ κ' ∧ h'.length = h.length := by
  intro f
  induction f with
  | zero => ?_
  | succ f ih => ?_
  all_goals
    intro m b ng w h κ q3 q4 hq4 hf h0 hm9 hl hB hc hng
    have hcap := sb_cp hB
  · obtain rfl : m = 0 := by omega
    have e9 := dcD_1 (m := 0) (by decide) (by decide)
    rw [e9] at hB hc ⊢
    have hB : sbB h κ r cap (fbW fb (b + ng + 1) w) := hB
    have hc : b + ng + 1 + w.length ≤ cap := hc
    obtain ⟨m, hm0⟩ : ∃ m : Int, m = 0 := ⟨_, rfl⟩
    obtain ⟨h1, κ1, e1, e2, e3, e4, e5⟩ := sb_st1 (x := 48 + m % 10) hl hB (by omega)
    obtain ⟨h2, κ2, g1, g2, g3, g4, g5⟩ := js_gcT (β := β) (d := d) (ix := ix) (m := -m) (q3 := q3) (q4 := q4) (by omega) e2 (by omega) hng hq4
    rw [hm0] at g2
    refine ⟨h2, κ2, ?_, g2, sbF_tr e3 g3, mEq_trans e4 g4, by omega⟩
    rw [← hm0]
    show jx_r (jz β) jw_M (d) 40 (22, [some (.int (Int32.ofInt (-m))), some (.int (Int32.ofInt (ix))), some (.ref r), q3, q4, some (.int (Int32.ofInt (((b + ng + 1 : Nat) : Int)))), some (.int (Int32.ofInt (((ng : Nat) : Int))))], [], (cl_mk h κ)) (cl_mk h2 (κ2), .inl (some (.int (Int32.ofInt (((b : Nat) : Int))))))
    refine jr_1 jm_40 (show jw_cd cd_40 22 = some (.iload_n 0) by decide +kernel) rfl ?_
    refine jr_1 jm_40 (show jw_cd cd_40 23 = some (.bipush (-100)) by decide +kernel) (mt_bi (by decide)) ?_
    refine jr_1 jm_40 (show jw_cd cd_40 25 = some (.if_icmp .gt 47) by decide +kernel) (mb_t (q := .gt) (a := -m) (b := -100) (t := 72) (by show -100 < -m; omega) ⟨by omega, by omega⟩ ⟨by omega, by omega⟩ (by decide) (by decide)) ?_
    refine jr_1 jm_40 (show jw_cd cd_40 72 = some (.aload_n 2) by decide +kernel) rfl ?_
    refine jr_1 jm_40 (F2 := (76, [some (.int (Int32.ofInt (-m))), some (.int (Int32.ofInt (ix))), some (.ref r), q3, q4, some (.int (Int32.ofInt (((b + ng : Nat) : Int)))), some (.int (Int32.ofInt (((ng : Nat) : Int))))], [.ref r], (cl_mk h κ))) (show jw_cd cd_40 73 = some (.iinc 5 (-1)) by decide +kernel) (mt_inc (a := ((b + ng + 1 : Nat) : Int)) (c := ((b + ng : Nat) : Int)) rfl (by omega) (st1_5 hq4)) ?_
    refine jr_1 jm_40 (show jw_cd cd_40 76 = some (.iload 5) by decide +kernel) rfl ?_
    refine jr_1 jm_40 (show jw_cd cd_40 78 = some (.getstatic 83) by decide +kernel) (cgs (v := .ref (jx_big + 51)) (by decide) rfl) ?_
    refine jr_1 jm_40 (show jw_cd cd_40 81 = some (.iload_n 0) by decide +kernel) rfl ?_
    refine jr_1 jm_40 (show jw_cd cd_40 82 = some (.ineg) by decide +kernel) (mt_neg (c := m) (by omega)) ?_
    refine jr_1 jm_40 (show jw_cd cd_40 83 = some (.baload) by decide +kernel) (cal_b (i := m) jw_d1a (by decide) (by omega) (by omega) (jw_dgI (by omega) (by omega)).1) ?_
    refine jr_1 jm_40 (F2 := (85, [some (.int (Int32.ofInt (-m))), some (.int (Int32.ofInt (ix))), some (.ref r), q3, q4, some (.int (Int32.ofInt (((b + ng : Nat) : Int)))), some (.int (Int32.ofInt (((ng : Nat) : Int))))], [], (cl_mk h1 κ1))) (show jw_cd cd_40 84 = some (.bastore) by decide +kernel) (csB hB.2.2.1 (jbg (by omega)) (by omega) (by omega) (by omega) ⟨by omega, by omega⟩ e1) ?_
    refine jr_1 jm_40 (show jw_cd cd_40 85 = some (.iload_n 0) by decide +kernel) rfl ?_
    refine jr_1 jm_40 (show jw_cd cd_40 86 = some (.bipush (-9)) by decide +kernel) (mt_bi (by decide)) ?_
    refine jr_1 jm_40 (show jw_cd cd_40 88 = some (.if_icmp .ge 16) by decide +kernel) (mb_t (q := .ge) (a := -m) (b := -9) (t := 104) (by show -9 ≤ -m; omega) ⟨by omega, by omega⟩ ⟨by omega, by omega⟩ (by decide) (by decide)) ?_
    exact g1
  · by_cases hm1 : m < 10
    · have e9 := dcD_1 (m := m) h0 hm1
      rw [e9] at hB hc ⊢
      have hB : sbB h κ r cap (fbW fb (b + ng + 1) w) := hB
      have hc : b + ng + 1 + w.length ≤ cap := hc
      obtain ⟨h1, κ1, e1, e2, e3, e4, e5⟩ := sb_st1 (x := 48 + m % 10) hl hB (by omega)
      obtain ⟨h2, κ2, g1, g2, g3, g4, g5⟩ := js_gcT (β := β) (d := d) (ix := ix) (m := -m) (q3 := q3) (q4 := q4) (by omega) e2 (by omega) hng hq4
      rw [show m % 10 = m by omega] at g2
      refine ⟨h2, κ2, ?_, g2, sbF_tr e3 g3, mEq_trans e4 g4, by omega⟩
      show jx_r (jz β) jw_M (d) 40 (22, [some (.int (Int32.ofInt (-m))), some (.int (Int32.ofInt (ix))), some (.ref r), q3, q4, some (.int (Int32.ofInt (((b + ng + 1 : Nat) : Int)))), some (.int (Int32.ofInt (((ng : Nat) : Int))))], [], (cl_mk h κ)) (cl_mk h2 (κ2), .inl (some (.int (Int32.ofInt (((b : Nat) : Int))))))
      refine jr_1 jm_40 (show jw_cd cd_40 22 = some (.iload_n 0) by decide +kernel) rfl ?_
      refine jr_1 jm_40 (show jw_cd cd_40 23 = some (.bipush (-100)) by decide +kernel) (mt_bi (by decide)) ?_
      refine jr_1 jm_40 (show jw_cd cd_40 25 = some (.if_icmp .gt 47) by decide +kernel) (mb_t (q := .gt) (a := -m) (b := -100) (t := 72) (by show -100 < -m; omega) ⟨by omega, by omega⟩ ⟨by omega, by omega⟩ (by decide) (by decide)) ?_
      refine jr_1 jm_40 (show jw_cd cd_40 72 = some (.aload_n 2) by decide +kernel) rfl ?_
      refine jr_1 jm_40 (F2 := (76, [some (.int (Int32.ofInt (-m))), some (.int (Int32.ofInt (ix))), some (.ref r), q3, q4, some (.int (Int32.ofInt (((b + ng : Nat) : Int)))), some (.int (Int32.ofInt (((ng : Nat) : Int))))], [.ref r], (cl_mk h κ))) (show jw_cd cd_40 73 = some (.iinc 5 (-1)) by decide +kernel) (mt_inc (a := ((b + ng + 1 : Nat) : Int)) (c := ((b + ng : Nat) : Int)) rfl (by omega) (st1_5 hq4)) ?_
      refine jr_1 jm_40 (show jw_cd cd_40 76 = some (.iload 5) by decide +kernel) rfl ?_
      refine jr_1 jm_40 (show jw_cd cd_40 78 = some (.getstatic 83) by decide +kernel) (cgs (v := .ref (jx_big + 51)) (by decide) rfl) ?_
      refine jr_1 jm_40 (show jw_cd cd_40 81 = some (.iload_n 0) by decide +kernel) rfl ?_
      refine jr_1 jm_40 (show jw_cd cd_40 82 = some (.ineg) by decide +kernel) (mt_neg (c := m) (by omega)) ?_
      refine jr_1 jm_40 (show jw_cd cd_40 83 = some (.baload) by decide +kernel) (cal_b (i := m) jw_d1a (by decide) (by omega) (by omega) (jw_dgI (by omega) (by omega)).1) ?_
      refine jr_1 jm_40 (F2 := (85, [some (.int (Int32.ofInt (-m))), some (.int (Int32.ofInt (ix))), some (.ref r), q3, q4, some (.int (Int32.ofInt (((b + ng : Nat) : Int)))), some (.int (Int32.ofInt (((ng : Nat) : Int))))], [], (cl_mk h1 κ1))) (show jw_cd cd_40 84 = some (.bastore) by decide +kernel) (csB hB.2.2.1 (jbg (by omega)) (by omega) (by omega) (by omega) ⟨by omega, by omega⟩ e1) ?_
      refine jr_1 jm_40 (show jw_cd cd_40 85 = some (.iload_n 0) by decide +kernel) rfl ?_
      refine jr_1 jm_40 (show jw_cd cd_40 86 = some (.bipush (-9)) by decide +kernel) (mt_bi (by decide)) ?_
      refine jr_1 jm_40 (show jw_cd cd_40 88 = some (.if_icmp .ge 16) by decide +kernel) (mb_t (q := .ge) (a := -m) (b := -9) (t := 104) (by show -9 ≤ -m; omega) ⟨by omega, by omega⟩ ⟨by omega, by omega⟩ (by decide) (by decide)) ?_
      exact g1
    by_cases hm2 : m < 100
    · have e9 := dcD_2 (m := m) (by omega) hm2
      rw [e9] at hB hc ⊢
      have hB : sbB h κ r cap (fbW fb (b + ng + 2) w) := hB
      have hc : b + ng + 2 + w.length ≤ cap := hc
      obtain ⟨h1, κ1, e1, e2, e3, e4, e5⟩ := sb_st1 (q := b + ng + 1) (x := 48 + m % 10) hl hB (by omega)
      obtain ⟨h2, κ2, f1, f2, f3, f4, f5⟩ := sb_st1 (x := 48 + m / 10) (by omega) e2 (by omega)
      obtain ⟨h3, κ3, g1, g2, g3, g4, g5⟩ := js_gcT (β := β) (d := d) (ix := ix) (m := -m) (q3 := q3) (q4 := q4) (by omega) f2 (by omega) hng hq4
      refine ⟨h3, κ3, ?_, g2, sbF_tr e3 (sbF_tr f3 g3), mEq_trans e4 (mEq_trans f4 g4), by omega⟩
      show jx_r (jz β) jw_M (d) 40 (22, [some (.int (Int32.ofInt (-m))), some (.int (Int32.ofInt (ix))), some (.ref r), q3, q4, some (.int (Int32.ofInt (((b + ng + 2 : Nat) : Int)))), some (.int (Int32.ofInt (((ng : Nat) : Int))))], [], (cl_mk h κ)) (cl_mk h3 (κ3), .inl (some (.int (Int32.ofInt (((b : Nat) : Int))))))
      refine jr_1 jm_40 (show jw_cd cd_40 22 = some (.iload_n 0) by decide +kernel) rfl ?_
      refine jr_1 jm_40 (show jw_cd cd_40 23 = some (.bipush (-100)) by decide +kernel) (mt_bi (by decide)) ?_
      refine jr_1 jm_40 (show jw_cd cd_40 25 = some (.if_icmp .gt 47) by decide +kernel) (mb_t (q := .gt) (a := -m) (b := -100) (t := 72) (by show -100 < -m; omega) ⟨by omega, by omega⟩ ⟨by omega, by omega⟩ (by decide) (by decide)) ?_
      refine jr_1 jm_40 (show jw_cd cd_40 72 = some (.aload_n 2) by decide +kernel) rfl ?_
      refine jr_1 jm_40 (F2 := (76, [some (.int (Int32.ofInt (-m))), some (.int (Int32.ofInt (ix))), some (.ref r), q3, q4, some (.int (Int32.ofInt (((b + ng + 1 : Nat) : Int)))), some (.int (Int32.ofInt (((ng : Nat) : Int))))], [.ref r], (cl_mk h κ))) (show jw_cd cd_40 73 = some (.iinc 5 (-1)) by decide +kernel) (mt_inc (a := ((b + ng + 2 : Nat) : Int)) (c := ((b + ng + 1 : Nat) : Int)) rfl (by omega) (st1_5 hq4)) ?_
      refine jr_1 jm_40 (show jw_cd cd_40 76 = some (.iload 5) by decide +kernel) rfl ?_
      refine jr_1 jm_40 (show jw_cd cd_40 78 = some (.getstatic 83) by decide +kernel) (cgs (v := .ref (jx_big + 51)) (by decide) rfl) ?_
      refine jr_1 jm_40 (show jw_cd cd_40 81 = some (.iload_n 0) by decide +kernel) rfl ?_
      refine jr_1 jm_40 (show jw_cd cd_40 82 = some (.ineg) by decide +kernel) (mt_neg (c := m) (by omega)) ?_
      refine jr_1 jm_40 (show jw_cd cd_40 83 = some (.baload) by decide +kernel) (cal_b (i := m) jw_d1a (by decide) (by omega) (by omega) (jw_dgI (by omega) (by omega)).1) ?_
      refine jr_1 jm_40 (F2 := (85, [some (.int (Int32.ofInt (-m))), some (.int (Int32.ofInt (ix))), some (.ref r), q3, q4, some (.int (Int32.ofInt (((b + ng + 1 : Nat) : Int)))), some (.int (Int32.ofInt (((ng : Nat) : Int))))], [], (cl_mk h1 κ1))) (show jw_cd cd_40 84 = some (.bastore) by decide +kernel) (csB hB.2.2.1 (jbg (by omega)) (by omega) (by omega) (by omega) ⟨by omega, by omega⟩ e1) ?_
      refine jr_1 jm_40 (show jw_cd cd_40 85 = some (.iload_n 0) by decide +kernel) rfl ?_
      refine jr_1 jm_40 (show jw_cd cd_40 86 = some (.bipush (-9)) by decide +kernel) (mt_bi (by decide)) ?_
      refine jr_1 jm_40 (show jw_cd cd_40 88 = some (.if_icmp .ge 16) by decide +kernel) (mb_f (q := .ge) (a := -m) (b := -9) (by show ¬ (-9 ≤ -m); omega) ⟨by omega, by omega⟩ ⟨by omega, by omega⟩ (by decide)) ?_
      refine jr_1 jm_40 (show jw_cd cd_40 91 = some (.aload_n 2) by decide +kernel) rfl ?_
      refine jr_1 jm_40 (F2 := (95, [some (.int (Int32.ofInt (-m))), some (.int (Int32.ofInt (ix))), some (.ref r), q3, q4, some (.int (Int32.ofInt (((b + ng : Nat) : Int)))), some (.int (Int32.ofInt (((ng : Nat) : Int))))], [.ref r], (cl_mk h1 κ1))) (show jw_cd cd_40 92 = some (.iinc 5 (-1)) by decide +kernel) (mt_inc (a := ((b + ng + 1 : Nat) : Int)) (c := ((b + ng : Nat) : Int)) rfl (by omega) (st1_5 hq4)) ?_
      refine jr_1 jm_40 (show jw_cd cd_40 95 = some (.iload 5) by decide +kernel) rfl ?_
      refine jr_1 jm_40 (show jw_cd cd_40 97 = some (.getstatic 87) by decide +kernel) (cgs (v := .ref (jx_big + 52)) (by decide) rfl) ?_
      refine jr_1 jm_40 (show jw_cd cd_40 100 = some (.iload_n 0) by decide +kernel) rfl ?_
      refine jr_1 jm_40 (show jw_cd cd_40 101 = some (.ineg) by decide +kernel) (mt_neg (c := m) (by omega)) ?_
      refine jr_1 jm_40 (show jw_cd cd_40 102 = some (.baload) by decide +kernel) (cal_b (i := m) jw_d2a (by decide) (by omega) (by omega) (jw_dgI (by omega) (by omega)).2) ?_
      refine jr_1 jm_40 (F2 := (104, [some (.int (Int32.ofInt (-m))), some (.int (Int32.ofInt (ix))), some (.ref r), q3, q4, some (.int (Int32.ofInt (((b + ng : Nat) : Int)))), some (.int (Int32.ofInt (((ng : Nat) : Int))))], [], (cl_mk h2 κ2))) (show jw_cd cd_40 103 = some (.bastore) by decide +kernel) (csB e2.2.2.1 (jbg (by omega)) (by omega) (by omega) (by omega) ⟨by omega, by omega⟩ f1) ?_
      exact g1
    · have e9 := dcD_h (m := m) (by omega) (by have : (10 : Int) ^ 10 = 10000000000 := rfl; omega)
      obtain ⟨q, hq⟩ : ∃ q, q = (b + ng + (dcD (m / 100)).length) := ⟨_, rfl⟩
      have el : (b + ng + (dcD m).length) = q + 2 := by rw [e9, List.length_append, hq]; rfl
      rw [el] at hB hc ⊢
      obtain ⟨h1, κ1, e1, e2, e3, e4, e5⟩ := sb_st1 (q := q + 1) (x := 48 + m % 100 % 10) hl hB (by omega)
      obtain ⟨h2, κ2, f1, f2, f3, f4, f5⟩ := sb_st1 (x := 48 + m % 100 / 10) (by omega) e2 (by omega)
      rw [hq] at f2
      obtain ⟨h3, κ3, g1, g2, g3, g4, g5⟩ := ih (m / 100) b ng _ h2 κ2 (some (.int (Int32.ofInt (-(m / 100))))) (some (.int (Int32.ofInt (m % 100)))) (Or.inr ⟨_, rfl⟩) (by omega) (by omega) (by omega) (by omega) f2 (by rw [← hq, List.length_cons, List.length_cons]; omega) hng
      refine ⟨h3, κ3, ?_, ?_, sbF_tr e3 (sbF_tr f3 g3), mEq_trans e4 (mEq_trans f4 g4), by omega⟩
      rotate_left
      · rw [e9, List.append_assoc]
        rw [show m % 100 / 10 = m / 10 % 10 by omega, show m % 100 % 10 = m % 10 by omega] at g2
        exact g2
      rw [← hq] at g1
      refine jr_1 jm_40 (show jw_cd cd_40 22 = some (.iload_n 0) by decide +kernel) rfl ?_
      refine jr_1 jm_40 (show jw_cd cd_40 23 = some (.bipush (-100)) by decide +kernel) (mt_bi (by decide)) ?_
      refine jr_1 jm_40 (show jw_cd cd_40 25 = some (.if_icmp .gt 47) by decide +kernel) (mb_f (q := .gt) (a := -m) (b := -100) (by show ¬ (-100 < -m); omega) ⟨by omega, by omega⟩ ⟨by omega, by omega⟩ (by decide)) ?_
      refine jr_1 jm_40 (show jw_cd cd_40 28 = some (.iload_n 0) by decide +kernel) rfl ?_
      refine jr_1 jm_40 (show jw_cd cd_40 29 = some (.bipush 100) by decide +kernel) (mt_bi (by decide)) ?_
      refine jr_1 jm_40 (show jw_cd cd_40 31 = some (.idiv) by decide +kernel) (mt_idiv h0 hm9) ?_
      refine jr_1 jm_40 (F2 := (33, [some (.int (Int32.ofInt (-m))), some (.int (Int32.ofInt (ix))), some (.ref r), some (.int (Int32.ofInt (-(m / 100)))), q4, some (.int (Int32.ofInt (((q + 2 : Nat) : Int)))), some (.int (Int32.ofInt (((ng : Nat) : Int))))], [], (cl_mk h κ))) (show jw_cd cd_40 32 = some (.istore_n 3) by decide +kernel) rfl ?_
      refine jr_1 jm_40 (show jw_cd cd_40 33 = some (.iload_n 3) by decide +kernel) rfl ?_
      refine jr_1 jm_40 (show jw_cd cd_40 34 = some (.bipush 100) by decide +kernel) (mt_bi (by decide)) ?_
      refine jr_1 jm_40 (show jw_cd cd_40 36 = some (.imul) by decide +kernel) (mt_mul (c := -(m / 100) * 100) rfl) ?_
      refine jr_1 jm_40 (show jw_cd cd_40 37 = some (.iload_n 0) by decide +kernel) rfl ?_
      refine jr_1 jm_40 (show jw_cd cd_40 38 = some (.isub) by decide +kernel) (mt_sub (c := m % 100) (by omega)) ?_
      refine jr_1 jm_40 (F2 := (41, [some (.int (Int32.ofInt (-m))), some (.int (Int32.ofInt (ix))), some (.ref r), some (.int (Int32.ofInt (-(m / 100)))), some (.int (Int32.ofInt (m % 100))), some (.int (Int32.ofInt (((q + 2 : Nat) : Int)))), some (.int (Int32.ofInt (((ng : Nat) : Int))))], [], (cl_mk h κ))) (show jw_cd cd_40 39 = some (.istore 4) by decide +kernel) rfl ?_
      refine jr_1 jm_40 (show jw_cd cd_40 41 = some (.iload_n 3) by decide +kernel) rfl ?_
      refine jr_1 jm_40 (F2 := (43, [some (.int (Int32.ofInt (-(m / 100)))), some (.int (Int32.ofInt (ix))), some (.ref r), some (.int (Int32.ofInt (-(m / 100)))), some (.int (Int32.ofInt (m % 100))), some (.int (Int32.ofInt (((q + 2 : Nat) : Int)))), some (.int (Int32.ofInt (((ng : Nat) : Int))))], [], (cl_mk h κ))) (show jw_cd cd_40 42 = some (.istore_n 0) by decide +kernel) rfl ?_
      refine jr_1 jm_40 (show jw_cd cd_40 43 = some (.aload_n 2) by decide +kernel) rfl ?_
      refine jr_1 jm_40 (F2 := (47, [some (.int (Int32.ofInt (-(m / 100)))), some (.int (Int32.ofInt (ix))), some (.ref r), some (.int (Int32.ofInt (-(m / 100)))), some (.int (Int32.ofInt (m % 100))), some (.int (Int32.ofInt (((q + 1 : Nat) : Int)))), some (.int (Int32.ofInt (((ng : Nat) : Int))))], [.ref r], (cl_mk h κ))) (show jw_cd cd_40 44 = some (.iinc 5 (-1)) by decide +kernel) (mt_inc (a := ((q + 2 : Nat) : Int)) (c := ((q + 1 : Nat) : Int)) rfl (by omega) (st1_5 (Or.inr ⟨_, rfl⟩))) ?_
      refine jr_1 jm_40 (show jw_cd cd_40 47 = some (.iload 5) by decide +kernel) rfl ?_
      refine jr_1 jm_40 (show jw_cd cd_40 49 = some (.getstatic 83) by decide +kernel) (cgs (v := .ref (jx_big + 51)) (by decide) rfl) ?_
      refine jr_1 jm_40 (show jw_cd cd_40 52 = some (.iload 4) by decide +kernel) rfl ?_
      refine jr_1 jm_40 (show jw_cd cd_40 54 = some (.baload) by decide +kernel) (cal_b (i := m % 100) jw_d1a (by decide) (by omega) (by omega) (jw_dgI (by omega) (by omega)).1) ?_
      refine jr_1 jm_40 (F2 := (56, [some (.int (Int32.ofInt (-(m / 100)))), some (.int (Int32.ofInt (ix))), some (.ref r), some (.int (Int32.ofInt (-(m / 100)))), some (.int (Int32.ofInt (m % 100))), some (.int (Int32.ofInt (((q + 1 : Nat) : Int)))), some (.int (Int32.ofInt (((ng : Nat) : Int))))], [], (cl_mk h1 κ1))) (show jw_cd cd_40 55 = some (.bastore) by decide +kernel) (csB hB.2.2.1 (jbg (by omega)) (by omega) (by omega) (by omega) ⟨by omega, by omega⟩ e1) ?_
      refine jr_1 jm_40 (show jw_cd cd_40 56 = some (.aload_n 2) by decide +kernel) rfl ?_
      refine jr_1 jm_40 (F2 := (60, [some (.int (Int32.ofInt (-(m / 100)))), some (.int (Int32.ofInt (ix))), some (.ref r), some (.int (Int32.ofInt (-(m / 100)))), some (.int (Int32.ofInt (m % 100))), some (.int (Int32.ofInt (((q : Nat) : Int)))), some (.int (Int32.ofInt (((ng : Nat) : Int))))], [.ref r], (cl_mk h1 κ1))) (show jw_cd cd_40 57 = some (.iinc 5 (-1)) by decide +kernel) (mt_inc (a := ((q + 1 : Nat) : Int)) (c := ((q : Nat) : Int)) rfl (by omega) (st1_5 (Or.inr ⟨_, rfl⟩))) ?_
      refine jr_1 jm_40 (show jw_cd cd_40 60 = some (.iload 5) by decide +kernel) rfl ?_
      refine jr_1 jm_40 (show jw_cd cd_40 62 = some (.getstatic 87) by decide +kernel) (cgs (v := .ref (jx_big + 52)) (by decide) rfl) ?_
      refine jr_1 jm_40 (show jw_cd cd_40 65 = some (.iload 4) by decide +kernel) rfl ?_
      refine jr_1 jm_40 (show jw_cd cd_40 67 = some (.baload) by decide +kernel) (cal_b (i := m % 100) jw_d2a (by decide) (by omega) (by omega) (jw_dgI (by omega) (by omega)).2) ?_
      refine jr_1 jm_40 (F2 := (69, [some (.int (Int32.ofInt (-(m / 100)))), some (.int (Int32.ofInt (ix))), some (.ref r), some (.int (Int32.ofInt (-(m / 100)))), some (.int (Int32.ofInt (m % 100))), some (.int (Int32.ofInt (((q : Nat) : Int)))), some (.int (Int32.ofInt (((ng : Nat) : Int))))], [], (cl_mk h2 κ2))) (show jw_cd cd_40 68 = some (.bastore) by decide +kernel) (csB e2.2.2.1 (jbg (by omega)) (by omega) (by omega) (by omega) ⟨by omega, by omega⟩ f1) ?_
      refine jr_1 jm_40 (show jw_cd cd_40 69 = some (.goto (-47)) by decide +kernel) (ju_go (t := 22) (by decide)) ?_
      exact g1
theorem js_gc {β : Bool} {d : Nat} {r cap : Nat} {fb : Nat → Value} {h : jx_H} {κ : mS} {n : Int} {b : Nat} (hn : mr n) (hl : 50 ≤ h.length) (hB : sbB h κ r cap fb) (hc : b + (dec n).length ≤ cap) : ∃ (h' : jx_H) (κ' : mS), jx_r (jz β) jw_M (d) 40 (0, [some (.int (Int32.ofInt (n))), some (.int (Int32.ofInt (((b + (dec n).length : Nat) : Int)))), some (.ref r), none, none, none, none], [], (cl_mk h κ)) (cl_mk h' (κ'), .inl (some (.int (Int32.ofInt (((b : Nat) : Int)))))) ∧ sbB h' κ' r cap (fbW fb b (dec n)) ∧ sbF h κ r cap h' κ' r cap ∧ mEq [14] κ κ' ∧ h'.length = h.length := by
  have hn1 := hn.1
  have hn2 := hn.2
  have hcap := sb_cp hB
  by_cases hx : n < 0
  · have ed : dec n = 45 :: dcD (-n) := by rw [dec_D, if_pos hx]
    have el : b + (dec n).length = b + 1 + (dcD (-n)).length := by rw [ed, List.length_cons]; omega
    obtain ⟨h3, κ3, g1, g2, g3⟩ := js_gcL (β := β) (d := d) (r := r) (cap := cap) (fb := fb) (ix := ((b + (dec n).length : Nat) : Int)) (-n).toNat (-n) b 1 [] h κ none none (Or.inl rfl) (Nat.le_refl _) (by omega) (by omega) hl (by rw [fbW_nil]; exact hB) (by show _ + 0 ≤ cap; omega) (Or.inr rfl)
    refine ⟨h3, κ3, ?_, ?_, g3⟩
    rotate_left
    · rw [List.append_nil] at g2
      rw [ed]
      exact g2
    rw [← el, show -(-n) = n by omega] at g1
    refine jr_1 jm_40 (show jw_cd cd_40 0 = some (.iload_n 1) by decide +kernel) rfl ?_
    refine jr_1 jm_40 (F2 := (3, [some (.int (Int32.ofInt (n))), some (.int (Int32.ofInt (((b + (dec n).length : Nat) : Int)))), some (.ref r), none, none, some (.int (Int32.ofInt (((b + (dec n).length : Nat) : Int)))), none], [], (cl_mk h κ))) (show jw_cd cd_40 1 = some (.istore 5) by decide +kernel) rfl ?_
    refine jr_1 jm_40 (show jw_cd cd_40 3 = some (.iload_n 0) by decide +kernel) rfl ?_
    refine jr_1 jm_40 (show jw_cd cd_40 4 = some (.ifCond .ge 7) by decide +kernel) (mz_f (q := .ge) (a := n) (by show ¬ (0 ≤ n); omega) ⟨by omega, by omega⟩ (by decide)) ?_
    refine jr_1 jm_40 (show jw_cd cd_40 7 = some (.iconst 1) by decide +kernel) rfl ?_
    refine jr_1 jm_40 (show jw_cd cd_40 8 = some (.goto 4) by decide +kernel) (ju_go (t := 12) (by decide)) ?_
    refine jr_1 jm_40 (F2 := (14, [some (.int (Int32.ofInt (n))), some (.int (Int32.ofInt (((b + (dec n).length : Nat) : Int)))), some (.ref r), none, none, some (.int (Int32.ofInt (((b + (dec n).length : Nat) : Int)))), some (.int (Int32.ofInt (1)))], [], (cl_mk h κ))) (show jw_cd cd_40 12 = some (.istore 6) by decide +kernel) rfl ?_
    refine jr_1 jm_40 (show jw_cd cd_40 14 = some (.iload 6) by decide +kernel) rfl ?_
    refine jr_1 jm_40 (show jw_cd cd_40 16 = some (.ifCond .ne 6) by decide +kernel) (mz_t (q := .ne) (a := 1) (t := 22) (by show ¬ (1 = 0); omega) ⟨by omega, by omega⟩ (by decide) (by decide)) ?_
    exact g1
  · have ed : dec n = dcD n := by rw [dec_D, if_neg hx]
    have el : b + (dec n).length = b + 0 + (dcD n).length := by rw [ed]; omega
    obtain ⟨h3, κ3, g1, g2, g3⟩ := js_gcL (β := β) (d := d) (r := r) (cap := cap) (fb := fb) (ix := ((b + (dec n).length : Nat) : Int)) n.toNat n b 0 [] h κ none none (Or.inl rfl) (Nat.le_refl _) (by omega) (by omega) hl (by rw [fbW_nil]; exact hB) (by show _ + 0 ≤ cap; omega) (Or.inl rfl)
    refine ⟨h3, κ3, ?_, ?_, g3⟩
    rotate_left
    · rw [List.append_nil] at g2
      rw [ed]
      exact g2
    rw [← el] at g1
    refine jr_1 jm_40 (show jw_cd cd_40 0 = some (.iload_n 1) by decide +kernel) rfl ?_
    refine jr_1 jm_40 (F2 := (3, [some (.int (Int32.ofInt (n))), some (.int (Int32.ofInt (((b + (dec n).length : Nat) : Int)))), some (.ref r), none, none, some (.int (Int32.ofInt (((b + (dec n).length : Nat) : Int)))), none], [], (cl_mk h κ))) (show jw_cd cd_40 1 = some (.istore 5) by decide +kernel) rfl ?_
    refine jr_1 jm_40 (show jw_cd cd_40 3 = some (.iload_n 0) by decide +kernel) rfl ?_
    refine jr_1 jm_40 (show jw_cd cd_40 4 = some (.ifCond .ge 7) by decide +kernel) (mz_t (q := .ge) (a := n) (t := 11) (by show 0 ≤ n; omega) ⟨by omega, by omega⟩ (by decide) (by decide)) ?_
    refine jr_1 jm_40 (show jw_cd cd_40 11 = some (.iconst 0) by decide +kernel) rfl ?_
    refine jr_1 jm_40 (F2 := (14, [some (.int (Int32.ofInt (n))), some (.int (Int32.ofInt (((b + (dec n).length : Nat) : Int)))), some (.ref r), none, none, some (.int (Int32.ofInt (((b + (dec n).length : Nat) : Int)))), some (.int (Int32.ofInt (0)))], [], (cl_mk h κ))) (show jw_cd cd_40 12 = some (.istore 6) by decide +kernel) rfl ?_
    refine jr_1 jm_40 (show jw_cd cd_40 14 = some (.iload 6) by decide +kernel) rfl ?_
    refine jr_1 jm_40 (show jw_cd cd_40 16 = some (.ifCond .ne 6) by decide +kernel) (mz_f (q := .ne) (a := 0) (by show ¬ (¬ (0 = 0)); omega) ⟨by omega, by omega⟩ (by decide)) ?_
    refine jr_1 jm_40 (show jw_cd cd_40 19 = some (.iload_n 0) by decide +kernel) rfl ?_
    refine jr_1 jm_40 (show jw_cd cd_40 20 = some (.ineg) by decide +kernel) (mt_neg (c := -(n)) rfl) ?_
    refine jr_1 jm_40 (F2 := (22, [some (.int (Int32.ofInt (-(n)))), some (.int (Int32.ofInt (((b + (dec n).length : Nat) : Int)))), some (.ref r), none, none, some (.int (Int32.ofInt (((b + (dec n).length : Nat) : Int)))), some (.int (Int32.ofInt (0)))], [], (cl_mk h κ))) (show jw_cd cd_40 21 = some (.istore_n 0) by decide +kernel) rfl ?_
    exact g1
theorem js_apI1 {β : Bool} {d : Nat} {h : jx_H} {κ : mS} (hl : 50 ≤ h.length) {N : Nat} (hN : h.length = N) (hb32 : N < 3000000000) {r cap : Nat} {fb : Nat → Value} {l : List Int} (hs : sbR h κ r cap fb l) {n : Int} (hn : mr n) (hml : l.length + (dec n).length ≤ 260) : ∃ (h' : jx_H) (κ' : mS) (r' cap' : Nat) (fb' : Nat → Value), jx_r (jz β) jw_M (d + 3) 38 (0, [some (.ref 13), some (.int (Int32.ofInt (n))), none, none], [], (cl_mk h κ)) (cl_mk h' (κ'), .inl (some (.ref (13)))) ∧ sbR h' κ' r' cap' fb' (l ++ dec n) ∧ sbF h κ r cap h' κ' r' cap' := by
  have s2 := hs.2.1
  have hd := dec_len n
  obtain ⟨ha, κa, ra, ca, fa, hens, hsa, hca, hFa⟩ := js_ens (β := β) (d := d) hl hN hb32 hs (m := ((l.length + (dec n).length : Nat) : Int)) ⟨by omega, by omega, by omega⟩
  have al : 50 ≤ ha.length := by have := hFa.2.1; omega
  have aB := sbR_B hsa
  have a12 := hsa.2.1
  have a13 := sb_13B aB
  obtain ⟨hb, κb, hr, bB, bF, bq, bl⟩ := js_gc (β := β) (d := d + 2) (b := l.length) hn al aB (by omega)
  have b12 : κb 12 0 = (l.length : Int) := (congrFun (bq 12 (by decide)) 0).trans a12
  have hbl : 50 ≤ hb.length := by omega
  refine ⟨hb, su κb 12 0 (((l.length + (dec n).length : Nat) : Int)), ra, ca, _, ?_, sb_fin (sbB_n hbl bB) hsa.2.2.2.2.2.2.2 ((su_eq _ _ _ _).trans (by omega)) (by omega), sbF_tr hFa (sbF_tr bF sbF_12)⟩
  refine jr_1 jm_38 (show jw_cd cd_38 0 = some (.aload_n 0) by decide +kernel) rfl ?_
  refine jr_1 jm_38 (show jw_cd cd_38 1 = some (.getfield 79) by decide +kernel) (cg_12 (e := ((l.length : Nat) : Int)) s2 (show jw_fld 4 79 2 = some 3 by decide +kernel)) ?_
  refine jr_1 jm_38 (F2 := (5, [some (.ref 13), some (.int (Int32.ofInt (n))), some (.int (Int32.ofInt (((l.length : Nat) : Int)))), none], [], (cl_mk h κ))) (show jw_cd cd_38 4 = some (.istore_n 2) by decide +kernel) rfl ?_
  refine jr_1 jm_38 (show jw_cd cd_38 5 = some (.iload_n 2) by decide +kernel) rfl ?_
  refine jr_1 jm_38 (show jw_cd cd_38 6 = some (.iload_n 1) by decide +kernel) rfl ?_
  refine jr_c jm_38 (show jw_cd cd_38 7 = some (.invokestatic 245) by decide +kernel) (mc_s (n := 1) (m2 := 39) (bs := [.int (Int32.ofInt (n))]) (r := [.int (Int32.ofInt (((l.length : Nat) : Int)))]) (by decide) (show jw_find jw_csT 4 245 = some (39, 1) by decide +kernel) rfl rfl rfl) jm_39 ⟨Nat.le_of_ble_eq_true rfl, by decide⟩ (js_sz hl hn) ?_
  refine jr_1 jm_38 (show jw_cd cd_38 10 = some (.iadd) by decide +kernel) (mt_add (c := ((l.length + (dec n).length : Nat) : Int)) (by omega)) ?_
  refine jr_1 jm_38 (F2 := (12, [some (.ref 13), some (.int (Int32.ofInt (n))), some (.int (Int32.ofInt (((l.length : Nat) : Int)))), some (.int (Int32.ofInt (((l.length + (dec n).length : Nat) : Int))))], [], (cl_mk h κ))) (show jw_cd cd_38 11 = some (.istore_n 3) by decide +kernel) rfl ?_
  refine jr_1 jm_38 (show jw_cd cd_38 12 = some (.aload_n 0) by decide +kernel) rfl ?_
  refine jr_1 jm_38 (show jw_cd cd_38 13 = some (.iload_n 3) by decide +kernel) rfl ?_
  refine jr_c jm_38 (show jw_cd cd_38 14 = some (.invokevirtual 100) by decide +kernel) (ccv (n := 1) (m2 := 16) (ci := 2) (a := 13) (bs := [.int (Int32.ofInt (((l.length + (dec n).length : Nat) : Int)))]) (r := []) (js_cls cl_c13 (by decide)) (show jw_find jw_cvT 4 100 = some (1, [(2, 16)]) by decide +kernel) (by decide) rfl rfl rfl) jm_16 ⟨Nat.le_of_ble_eq_true rfl, by decide⟩ hens ?_
  refine jr_1 jm_38 (show jw_cd cd_38 17 = some (.aload_n 0) by decide +kernel) rfl ?_
  refine jr_c jm_38 (show jw_cd cd_38 18 = some (.invokevirtual 83) by decide +kernel) (ccv (n := 0) (m2 := 23) (ci := 2) (a := 13) (bs := []) (r := []) (js_cls cl_c13 (by decide)) (show jw_find jw_cvT 4 83 = some (0, [(2, 23)]) by decide +kernel) (by decide) rfl rfl rfl) jm_23 ⟨Nat.le_of_ble_eq_true rfl, by decide⟩ (js_lat al) ?_
  refine jr_1 jm_38 (show jw_cd cd_38 21 = some (.ifCond .eq 16) by decide +kernel) (mz_f (q := .eq) (a := 1) (by show ¬ (1 = 0); omega) ⟨by omega, by omega⟩ (by decide)) ?_
  refine jr_1 jm_38 (show jw_cd cd_38 24 = some (.iload_n 1) by decide +kernel) rfl ?_
  refine jr_1 jm_38 (show jw_cd cd_38 25 = some (.iload_n 3) by decide +kernel) rfl ?_
  refine jr_1 jm_38 (show jw_cd cd_38 26 = some (.aload_n 0) by decide +kernel) rfl ?_
  refine jr_1 jm_38 (show jw_cd cd_38 27 = some (.getfield 15) by decide +kernel) (cgk_13 (e := ra) a13 (show jw_fld 4 15 2 = some 0 by decide +kernel)) ?_
  refine jr_c jm_38 (show jw_cd cd_38 30 = some (.invokestatic 248) by decide +kernel) (mc_s (n := 3) (m2 := 40) (bs := [.int (Int32.ofInt (n)), .int (Int32.ofInt (((l.length + (dec n).length : Nat) : Int))), .ref ra]) (r := []) (by decide) (show jw_find jw_csT 4 248 = some (40, 3) by decide +kernel) rfl rfl rfl) jm_40 ⟨Nat.le_of_ble_eq_true rfl, by decide⟩ hr ?_
  refine jr_1 jm_38 (show jw_cd cd_38 33 = some (.pop) by decide +kernel) rfl ?_
  refine jr_1 jm_38 (show jw_cd cd_38 34 = some (.goto 14) by decide +kernel) (ju_go (t := 48) (by decide)) ?_
  refine jr_1 jm_38 (show jw_cd cd_38 48 = some (.aload_n 0) by decide +kernel) rfl ?_
  refine jr_1 jm_38 (show jw_cd cd_38 49 = some (.iload_n 3) by decide +kernel) rfl ?_
  refine jr_1 jm_38 (show jw_cd cd_38 50 = some (.putfield 79) by decide +kernel) (cp_12 (x := ((l.length + (dec n).length : Nat) : Int)) (show jw_fld 4 79 2 = some 3 by decide +kernel) (show jw_fm 4 2 3 = some false by decide +kernel)) ?_
  refine jr_1 jm_38 (show jw_cd cd_38 53 = some (.aload_n 0) by decide +kernel) rfl ?_
  exact jr_v jm_38 (show jw_cd cd_38 54 = some (.areturn) by decide +kernel) rfl
theorem js_apI {β : Bool} {d : Nat} {h : jx_H} {κ : mS} (hl : 50 ≤ h.length) {N : Nat} (hN : h.length = N) (hb32 : N < 3000000000) {r cap : Nat} {fb : Nat → Value} {l : List Int} (hs : sbR h κ r cap fb l) {n : Int} (hn : mr n) (hml : l.length + (dec n).length ≤ 260) : ∃ (h' : jx_H) (κ' : mS) (r' cap' : Nat) (fb' : Nat → Value), jx_r (jz β) jw_M (d + 4) 37 (0, [some (.ref 13), some (.int (Int32.ofInt (n)))], [], (cl_mk h κ)) (cl_mk h' (κ'), .inl (some (.ref (13)))) ∧ sbR h' κ' r' cap' fb' (l ++ dec n) ∧ sbF h κ r cap h' κ' r' cap' := by
  obtain ⟨h', κ', r', cap', fb', hr, hc, hF⟩ := js_apI1 (β := β) (d := d) hl hN hb32 hs hn hml
  refine ⟨h', κ', r', cap', fb', ?_, hc, hF⟩
  refine jr_1 jm_37 (show jw_cd cd_37 0 = some (.aload_n 0) by decide +kernel) rfl ?_
  refine jr_1 jm_37 (show jw_cd cd_37 1 = some (.iload_n 1) by decide +kernel) rfl ?_
  refine jr_c jm_37 (show jw_cd cd_37 2 = some (.invokespecial 53) by decide +kernel) (ccp (n := 1) (m2 := 38) (ci := 2) (a := 13) (bs := [.int (Int32.ofInt (n))]) (r := []) (by decide +kernel) (js_cls cl_c13 (by decide)) (by decide) (by decide) (show jw_find jw_cpT 3 53 = some (1, 38) by decide +kernel) rfl rfl rfl) jm_38 ⟨Nat.le_of_ble_eq_true rfl, by decide⟩ hr ?_
  refine jr_1 jm_37 (show jw_cd cd_37 5 = some (.pop) by decide +kernel) rfl ?_
  refine jr_1 jm_37 (show jw_cd cd_37 6 = some (.aload_n 0) by decide +kernel) rfl ?_
  exact jr_v jm_37 (show jw_cd cd_37 7 = some (.areturn) by decide +kernel) rfl
