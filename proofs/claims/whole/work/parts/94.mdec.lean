/-! ===== the model writes numbers and texts (printed by program: gen22.py) ===== -/
section MD
variable {T : jx_T} {cd : Nat → Option Instr} {own pc : Nat} {rt : Option FieldType × Bool} {lo : jx_L} {st : List Value} {h : jx_H}
theorem mt_lmul {a b c : Int} (hc : a * b = c) : jx_do T cd own pc rt .lmul lo (.long (Int64.ofInt b) :: .long (Int64.ofInt a) :: st) h = some (.inl (pc + 1, lo, .long (Int64.ofInt c) :: st, h)) := by
  simp only [jx_do, ← hc, Int64.ofInt_mul]
theorem mt_ladd {a b c : Int} (hc : a + b = c) : jx_do T cd own pc rt .ladd lo (.long (Int64.ofInt b) :: .long (Int64.ofInt a) :: st) h = some (.inl (pc + 1, lo, .long (Int64.ofInt c) :: st, h)) := by
  simp only [jx_do, ← hc, Int64.ofInt_add]
theorem mt_lneg {a c : Int} (hc : -a = c) : jx_do T cd own pc rt .lneg lo (.long (Int64.ofInt a) :: st) h = some (.inl (pc + 1, lo, .long (Int64.ofInt c) :: st, h)) := by
  simp only [jx_do, ← hc, Int64.ofInt_neg]
theorem mx_div {a b : Int} (ha : 0 ≤ a) (ha2 : m64 a) (hb : 0 < b) (hb2 : m64 b) : Int64.ofInt a / Int64.ofInt b = Int64.ofInt (a / b) := by
  have h1 : 0 ≤ a / b := Int.ediv_nonneg ha (Int.le_of_lt hb)
  have h2 : a / b ≤ a := Int.ediv_le_self _ ha
  apply Int64.toInt_inj.mp
  rw [Int64.toInt_div, m64_i ha2, m64_i hb2, m64_i ⟨by omega, by have := ha2.2; omega⟩, Int.tdiv_eq_ediv_of_nonneg ha]
  have := ha2.2
  exact Int.bmod_eq_of_le (by show -(2 ^ 64 / 2 : Int) ≤ a / b; omega) (by show a / b < ((2 ^ 64 : Nat) + 1) / 2; omega)
theorem mx_nz {b : Int} (hb : 0 < b) (hb2 : m64 b) : ¬ Int64.ofInt b = 0 := by
  intro e
  have e2 := congrArg Int64.toInt e
  rw [m64_i hb2] at e2
  have : (0 : Int64).toInt = 0 := by decide
  omega
theorem mt_ldiv {a b c : Int} (ha : 0 ≤ a) (ha2 : m64 a) (hb : 0 < b) (hb2 : m64 b) (hc : a / b = c) : jx_do T cd own pc rt .ldiv lo (.long (Int64.ofInt b) :: .long (Int64.ofInt a) :: st) h = some (.inl (pc + 1, lo, .long (Int64.ofInt c) :: st, h)) := by
  simp only [jx_do, if_neg (mx_nz hb hb2), mx_div ha ha2 hb hb2, hc]
theorem mt_lrem {a b c : Int} (ha : 0 ≤ a) (ha2 : m64 a) (hb : 0 < b) (hb2 : m64 b) (hc : a % b = c) : jx_do T cd own pc rt .lrem lo (.long (Int64.ofInt b) :: .long (Int64.ofInt a) :: st) h = some (.inl (pc + 1, lo, .long (Int64.ofInt c) :: st, h)) := by
  have e : Int64.ofInt a - Int64.ofInt (a / b) * Int64.ofInt b = Int64.ofInt c := by
    rw [← Int64.ofInt_mul, ← Int64.ofInt_sub, ← hc, Int.emod_def, Int.mul_comm]
  simp only [jx_do, if_neg (mx_nz hb hb2), mx_div ha ha2 hb hb2, e]
end MD
/-- what is on the paper -/
def pap (τ : mS) (l : List Int) : Prop := τ 45 0 = l.length ∧ ∀ j : Nat, j < l.length → τ 46 j = l.getD j 0
theorem pap_mark {τ : mS} {l : List Int} {c : Int} (h : pap τ l) : pap (mMark τ c) (l ++ [c]) := by
  obtain ⟨h1, h2⟩ := h
  refine ⟨?_, fun j hj => ?_⟩
  · show (su (su τ 46 (τ 45 0) c) 45 0 _) 45 0 = _
    rw [su_eq]
    rw [h1]
    simp
  · have hj : j < l.length + 1 := by simpa using hj
    show (su (su τ 46 (τ 45 0) c) 45 0 _) 46 j = _
    rw [su_nf (by decide), h1]
    by_cases e : j = l.length
    · subst e
      rw [su_eq]
      simp
    · rw [su_ni (by omega), h2 j (by omega), List.getD_eq_getElem?_getD, List.getD_eq_getElem?_getD, List.getElem?_append_left (by omega)]
theorem mEq_mark {L : List Nat} {σ τ : mS} {c : Int} (h : mEq L σ τ) (h45 : 45 ∈ L) (h46 : 46 ∈ L) : mEq L σ (mMark τ c) := mEq_su (mEq_su h h46) h45
theorem jn_markP {β : Bool} {d : Nat} {h : jx_H} {τ : mS} (hl : 49 ≤ h.length) {l : List Int} (hp : pap τ l) (h5 : l.length < 500) {c : Int} : jx_r (jz β) jw_M d 277 (0, [some (.ref 15), some (.int (Int32.ofInt c))], [], ml_mk h τ) (ml_mk h (mMark τ c), .inl none) := jn_mark hl (by rw [hp.1]; omega)
/-- the digits of m from the k-th on down -/
def dgk (m : Int) : Nat → List Int
  | 0 => [48 + m / 10 ^ 0 % 10]
  | k + 1 => (48 + m / 10 ^ (k + 1) % 10) :: dgk m k
def kdg : Nat → Int → Nat
  | 0, _ => 0
  | f + 1, m => if m < 10 then 0 else kdg f (m / 10) + 1
theorem kdg_spec : ∀ (f : Nat) (m : Int), 0 ≤ m → m < 10 ^ (f + 1) → m < 10 ^ (kdg f m + 1) ∧ (0 < kdg f m → 10 ^ kdg f m ≤ m)
  | 0, m, h0, h1 => ⟨h1, fun h => absurd h (Nat.lt_irrefl 0)⟩
  | f + 1, m, h0, h1 => by
    unfold kdg
    by_cases hm : m < 10
    · rw [if_pos hm]
      exact ⟨by show m < 10 ^ 1; omega, fun h => absurd h (Nat.lt_irrefl 0)⟩
    · rw [if_neg hm]
      have hlt : m / 10 < 10 ^ (f + 1) := by
        have e : (10 : Int) ^ (f + 1 + 1) = 10 ^ (f + 1) * 10 := Int.pow_succ 10 (f + 1)
        rw [e] at h1
        omega
      obtain ⟨k1, k2⟩ := kdg_spec f (m / 10) (by omega) hlt
      have e1 : (10 : Int) ^ (kdg f (m / 10) + 1 + 1) = 10 ^ (kdg f (m / 10) + 1) * 10 := Int.pow_succ 10 _
      have e2 : (10 : Int) ^ (kdg f (m / 10) + 1) = 10 ^ kdg f (m / 10) * 10 := Int.pow_succ 10 _
      refine ⟨by rw [e1]; omega, fun _ => ?_⟩
      rw [e2]
      by_cases hz : 0 < kdg f (m / 10)
      · have := k2 hz
        omega
      · have : kdg f (m / 10) = 0 := by omega
        rw [this]
        show (10 : Int) ^ 0 * 10 ≤ m
        omega
def dec (n : Int) : List Int := if n < 0 then 45 :: dgk (-n) (kdg 9 (-n)) else dgk n (kdg 9 n)
theorem dgk_len (m : Int) : ∀ k, (dgk m k).length = k + 1
  | 0 => rfl
  | k + 1 => by
    show (dgk m k).length + 1 = _
    rw [dgk_len m k]
theorem kdg_le : ∀ (f : Nat) (m : Int), kdg f m ≤ f
  | 0, _ => Nat.le_refl 0
  | f + 1, m => by
    unfold kdg
    split
    · omega
    · have := kdg_le f (m / 10)
      omega
theorem p10 : ∀ j : Nat, j ≤ 11 → (1 : Int) ≤ 10 ^ j ∧ (10 : Int) ^ j ≤ 100000000000 := by decide
theorem p10m : ∀ b : Nat, b ≤ 11 → ∀ a : Nat, a ≤ b → (10 : Int) ^ a ≤ 10 ^ b := by decide
theorem jn_dig {β : Bool} {d : Nat} {h : jx_H} {σ : mS} (hl : 49 ≤ h.length) {n m : Int} (h0 : 0 ≤ m) (h1 : m ≤ 2147483648) : ∀ (j : Nat) (τ : mS) (l : List Int), j ≤ 10 → mEq [45, 46] σ τ → pap τ l → l.length + (j + 1) ≤ 500 → ∃ τ', jx_r (jz β) jw_M (d + 1) 278 (41, [some (.ref 15), some (.int (Int32.ofInt (n))), some (.long (Int64.ofInt (m))), none, some (.long (Int64.ofInt (10 ^ j))), none], [], ml_mk h τ) (ml_mk h (τ'), .inl none) ∧ mEq [45, 46] σ τ' ∧ pap τ' (l ++ dgk m j)
  | 0, τ, l, hj, hq, hp, h5 => by
    have hu : (1 : Int) ≤ 10 ^ 0 ∧ (10 : Int) ^ 0 ≤ 1 := by decide
    have hq0 : 0 ≤ m / 10 ^ 0 := Int.ediv_nonneg h0 (by omega)
    have hq1 : m / 10 ^ 0 ≤ m := Int.ediv_le_self _ h0
    have hnx : (10 : Int) ^ 0 / 10 = 0 := by decide
    refine ⟨mMark τ (48 + m / 10 ^ 0 % 10), ?_, mEq_mark hq (by decide) (by decide), pap_mark hp⟩
    refine jr_1 jm_278 (show jw_cd cd_278 41 = some (.lload 4) by decide +kernel) rfl ?_
    refine jr_1 jm_278 (F2 := (44, [some (.ref 15), some (.int (Int32.ofInt (n))), some (.long (Int64.ofInt (m))), none, some (.long (Int64.ofInt (10 ^ 0))), none], [.long (Int64.ofInt (0)), .long (Int64.ofInt (10 ^ 0))], ml_mk h τ)) (show jw_cd cd_278 43 = some (.lconst 0) by decide +kernel) rfl ?_
    refine jr_1 jm_278 (show jw_cd cd_278 44 = some (.lcmp) by decide +kernel) (mt_cmp (r := 1) ⟨by omega, by omega⟩ ⟨by omega, by omega⟩ (by rw [if_neg (by omega), if_neg (by omega)])) ?_
    refine jr_1 jm_278 (show jw_cd cd_278 45 = some (.ifCond .le 31) by decide +kernel) (mz_f (q := .le) (a := 1) (by show ¬ (1 ≤ 0); omega) ⟨by omega, by omega⟩ (by decide)) ?_
    refine jr_1 jm_278 (show jw_cd cd_278 48 = some (.aload_n 0) by decide +kernel) rfl ?_
    refine jr_1 jm_278 (show jw_cd cd_278 49 = some (.ldc2_w 361) by decide +kernel) (mt_l2 (x := 48) (n := 48) rfl (by decide)) ?_
    refine jr_1 jm_278 (show jw_cd cd_278 52 = some (.lload_n 2) by decide +kernel) rfl ?_
    refine jr_1 jm_278 (show jw_cd cd_278 53 = some (.lload 4) by decide +kernel) rfl ?_
    refine jr_1 jm_278 (show jw_cd cd_278 55 = some (.ldiv) by decide +kernel) (mt_ldiv (c := m / (10 ^ 0)) (by omega) ⟨by omega, by omega⟩ (by omega) ⟨by omega, by omega⟩ rfl) ?_
    refine jr_1 jm_278 (show jw_cd cd_278 56 = some (.ldc2_w 359) by decide +kernel) (mt_l2 (x := 10) (n := 10) rfl (by decide)) ?_
    refine jr_1 jm_278 (show jw_cd cd_278 59 = some (.lrem) by decide +kernel) (mt_lrem (c := m / (10 ^ 0) % 10) hq0 ⟨by omega, by omega⟩ (by omega) ⟨by omega, by omega⟩ rfl) ?_
    refine jr_1 jm_278 (show jw_cd cd_278 60 = some (.ladd) by decide +kernel) (mt_ladd (c := 48 + m / (10 ^ 0) % 10) rfl) ?_
    refine jr_1 jm_278 (show jw_cd cd_278 61 = some (.l2i) by decide +kernel) mt_l2i ?_
    refine jr_c jm_278 (show jw_cd cd_278 62 = some (.invokevirtual 356) by decide +kernel) (mc_v hl (n := 1) (m2 := 277) (bs := [.int (Int32.ofInt (48 + m / (10 ^ 0) % 10))]) (r := []) (show jw_find jw_cvT 34 356 = some (1, [(16, 277)]) by decide +kernel) (by decide) rfl rfl rfl) jm_277 ⟨Nat.le_of_ble_eq_true rfl, by decide⟩ (jn_markP hl hp (by omega)) ?_
    refine jr_1 jm_278 (show jw_cd cd_278 65 = some (.lload 4) by decide +kernel) rfl ?_
    refine jr_1 jm_278 (show jw_cd cd_278 67 = some (.ldc2_w 359) by decide +kernel) (mt_l2 (x := 10) (n := 10) rfl (by decide)) ?_
    refine jr_1 jm_278 (show jw_cd cd_278 70 = some (.ldiv) by decide +kernel) (mt_ldiv (c := 0) (by omega) ⟨by omega, by omega⟩ (by omega) ⟨by omega, by omega⟩ hnx) ?_
    refine jr_1 jm_278 (F2 := (73, [some (.ref 15), some (.int (Int32.ofInt (n))), some (.long (Int64.ofInt (m))), none, some (.long (Int64.ofInt (0))), none], [], ml_mk h (mMark τ (48 + m / (10 ^ 0) % 10)))) (show jw_cd cd_278 71 = some (.lstore 4) by decide +kernel) rfl ?_
    refine jr_1 jm_278 (show jw_cd cd_278 73 = some (.goto (-32)) by decide +kernel) (ju_go (t := 41) (by decide)) ?_
    refine jr_1 jm_278 (show jw_cd cd_278 41 = some (.lload 4) by decide +kernel) rfl ?_
    refine jr_1 jm_278 (F2 := (44, [some (.ref 15), some (.int (Int32.ofInt (n))), some (.long (Int64.ofInt (m))), none, some (.long (Int64.ofInt (0))), none], [.long (Int64.ofInt (0)), .long (Int64.ofInt (0))], ml_mk h (mMark τ (48 + m / (10 ^ 0) % 10)))) (show jw_cd cd_278 43 = some (.lconst 0) by decide +kernel) rfl ?_
    refine jr_1 jm_278 (show jw_cd cd_278 44 = some (.lcmp) by decide +kernel) (mt_cmp (r := 0) ⟨by omega, by omega⟩ ⟨by omega, by omega⟩ (by decide)) ?_
    refine jr_1 jm_278 (show jw_cd cd_278 45 = some (.ifCond .le 31) by decide +kernel) (mz_t (q := .le) (a := 0) (t := 76) (by show 0 ≤ 0; omega) ⟨by omega, by omega⟩ (by decide) (by decide)) ?_
    exact jr_v jm_278 (show jw_cd cd_278 76 = some (.return_) by decide +kernel) rfl
  | j + 1, τ, l, hj, hq, hp, h5 => by
    have hu := p10 (j + 1) (by omega)
    have hq0 : 0 ≤ m / 10 ^ (j + 1) := Int.ediv_nonneg h0 (by omega)
    have hq1 : m / 10 ^ (j + 1) ≤ m := Int.ediv_le_self _ h0
    have hnx : (10 : Int) ^ (j + 1) / 10 = 10 ^ j := by
      rw [Int.pow_succ]
      exact Int.mul_ediv_cancel _ (by decide)
    obtain ⟨τ', r1, r2, r3⟩ := jn_dig (β := β) (d := d) (n := n) hl h0 h1 j (mMark τ (48 + m / 10 ^ (j + 1) % 10)) (l ++ [48 + m / 10 ^ (j + 1) % 10]) (by omega) (mEq_mark hq (by decide) (by decide)) (pap_mark hp) (by simp; omega)
    refine ⟨τ', ?_, r2, ?_⟩
    · skip
      refine jr_1 jm_278 (show jw_cd cd_278 41 = some (.lload 4) by decide +kernel) rfl ?_
      refine jr_1 jm_278 (F2 := (44, [some (.ref 15), some (.int (Int32.ofInt (n))), some (.long (Int64.ofInt (m))), none, some (.long (Int64.ofInt (10 ^ (j + 1)))), none], [.long (Int64.ofInt (0)), .long (Int64.ofInt (10 ^ (j + 1)))], ml_mk h τ)) (show jw_cd cd_278 43 = some (.lconst 0) by decide +kernel) rfl ?_
      refine jr_1 jm_278 (show jw_cd cd_278 44 = some (.lcmp) by decide +kernel) (mt_cmp (r := 1) ⟨by omega, by omega⟩ ⟨by omega, by omega⟩ (by rw [if_neg (by omega), if_neg (by omega)])) ?_
      refine jr_1 jm_278 (show jw_cd cd_278 45 = some (.ifCond .le 31) by decide +kernel) (mz_f (q := .le) (a := 1) (by show ¬ (1 ≤ 0); omega) ⟨by omega, by omega⟩ (by decide)) ?_
      refine jr_1 jm_278 (show jw_cd cd_278 48 = some (.aload_n 0) by decide +kernel) rfl ?_
      refine jr_1 jm_278 (show jw_cd cd_278 49 = some (.ldc2_w 361) by decide +kernel) (mt_l2 (x := 48) (n := 48) rfl (by decide)) ?_
      refine jr_1 jm_278 (show jw_cd cd_278 52 = some (.lload_n 2) by decide +kernel) rfl ?_
      refine jr_1 jm_278 (show jw_cd cd_278 53 = some (.lload 4) by decide +kernel) rfl ?_
      refine jr_1 jm_278 (show jw_cd cd_278 55 = some (.ldiv) by decide +kernel) (mt_ldiv (c := m / (10 ^ (j + 1))) (by omega) ⟨by omega, by omega⟩ (by omega) ⟨by omega, by omega⟩ rfl) ?_
      refine jr_1 jm_278 (show jw_cd cd_278 56 = some (.ldc2_w 359) by decide +kernel) (mt_l2 (x := 10) (n := 10) rfl (by decide)) ?_
      refine jr_1 jm_278 (show jw_cd cd_278 59 = some (.lrem) by decide +kernel) (mt_lrem (c := m / (10 ^ (j + 1)) % 10) hq0 ⟨by omega, by omega⟩ (by omega) ⟨by omega, by omega⟩ rfl) ?_
      refine jr_1 jm_278 (show jw_cd cd_278 60 = some (.ladd) by decide +kernel) (mt_ladd (c := 48 + m / (10 ^ (j + 1)) % 10) rfl) ?_
      refine jr_1 jm_278 (show jw_cd cd_278 61 = some (.l2i) by decide +kernel) mt_l2i ?_
      refine jr_c jm_278 (show jw_cd cd_278 62 = some (.invokevirtual 356) by decide +kernel) (mc_v hl (n := 1) (m2 := 277) (bs := [.int (Int32.ofInt (48 + m / (10 ^ (j + 1)) % 10))]) (r := []) (show jw_find jw_cvT 34 356 = some (1, [(16, 277)]) by decide +kernel) (by decide) rfl rfl rfl) jm_277 ⟨Nat.le_of_ble_eq_true rfl, by decide⟩ (jn_markP hl hp (by omega)) ?_
      refine jr_1 jm_278 (show jw_cd cd_278 65 = some (.lload 4) by decide +kernel) rfl ?_
      refine jr_1 jm_278 (show jw_cd cd_278 67 = some (.ldc2_w 359) by decide +kernel) (mt_l2 (x := 10) (n := 10) rfl (by decide)) ?_
      refine jr_1 jm_278 (show jw_cd cd_278 70 = some (.ldiv) by decide +kernel) (mt_ldiv (c := 10 ^ j) (by omega) ⟨by omega, by omega⟩ (by omega) ⟨by omega, by omega⟩ hnx) ?_
      refine jr_1 jm_278 (F2 := (73, [some (.ref 15), some (.int (Int32.ofInt (n))), some (.long (Int64.ofInt (m))), none, some (.long (Int64.ofInt (10 ^ j))), none], [], ml_mk h (mMark τ (48 + m / (10 ^ (j + 1)) % 10)))) (show jw_cd cd_278 71 = some (.lstore 4) by decide +kernel) rfl ?_
      refine jr_1 jm_278 (show jw_cd cd_278 73 = some (.goto (-32)) by decide +kernel) (ju_go (t := 41) (by decide)) ?_
      exact r1
    · rw [List.append_assoc] at r3
      exact r3
theorem jn_unit {β : Bool} {d : Nat} {h : jx_H} {σ : mS} (hl : 49 ≤ h.length) {n m : Int} (h0 : 0 ≤ m) (h1 : m ≤ 2147483648) {τ : mS} {res : jx_R} {k : Nat} (hk : k ≤ 9) (hk1 : m < 10 ^ (k + 1)) (hk2 : 0 < k → (10 : Int) ^ k ≤ m) (kk : jx_r (jz β) jw_M (d + 1) 278 (41, [some (.ref 15), some (.int (Int32.ofInt (n))), some (.long (Int64.ofInt (m))), none, some (.long (Int64.ofInt (10 ^ k))), none], [], ml_mk h τ) res) : ∀ (s j : Nat), j + s = k → jx_r (jz β) jw_M (d + 1) 278 (19, [some (.ref 15), some (.int (Int32.ofInt (n))), some (.long (Int64.ofInt (m))), none, some (.long (Int64.ofInt (10 ^ j))), none], [], ml_mk h τ) res := by
  intro s
  induction s with
  | zero =>
    intro j hj
    obtain rfl : j = k := by omega
    have hu := p10 (j + 1) (by omega)
    have hr : (if (10 : Int) ^ (j + 1) < m then -1 else if (10 : Int) ^ (j + 1) = m then 0 else 1) = (1 : Int) := by rw [if_neg (by omega), if_neg (by omega)]
    refine jr_1 jm_278 (show jw_cd cd_278 19 = some (.lload 4) by decide +kernel) rfl ?_
    refine jr_1 jm_278 (show jw_cd cd_278 21 = some (.ldc2_w 359) by decide +kernel) (mt_l2 (x := 10) (n := 10) rfl (by decide)) ?_
    refine jr_1 jm_278 (show jw_cd cd_278 24 = some (.lmul) by decide +kernel) (mt_lmul (c := 10 ^ (j + 1)) (Int.pow_succ 10 _).symm) ?_
    refine jr_1 jm_278 (show jw_cd cd_278 25 = some (.lload_n 2) by decide +kernel) rfl ?_
    refine jr_1 jm_278 (show jw_cd cd_278 26 = some (.lcmp) by decide +kernel) (mt_cmp (r := 1) ⟨by omega, by omega⟩ ⟨by omega, by omega⟩ hr) ?_
    refine jr_1 jm_278 (show jw_cd cd_278 27 = some (.ifCond .gt 14) by decide +kernel) (mz_t (q := .gt) (a := 1) (t := 41) (by show 0 < 1; omega) ⟨by omega, by omega⟩ (by decide) (by decide)) ?_
    exact kk
  | succ s ih =>
    intro j hj
    have hu := p10 (j + 1) (by omega)
    have hle : (10 : Int) ^ (j + 1) ≤ 10 ^ k := p10m k (by omega) (j + 1) (by omega)
    have hk2 := hk2 (by omega)
    have hr : (if (10 : Int) ^ (j + 1) < m then -1 else if (10 : Int) ^ (j + 1) = m then 0 else 1) = (if (10 : Int) ^ (j + 1) < m then -1 else if (10 : Int) ^ (j + 1) = m then 0 else 1 : Int) := rfl
    have hng0 : (if (10 : Int) ^ (j + 1) < m then -1 else if (10 : Int) ^ (j + 1) = m then 0 else 1 : Int) ≤ 0 ∧ -1 ≤ (if (10 : Int) ^ (j + 1) < m then -1 else if (10 : Int) ^ (j + 1) = m then 0 else 1 : Int) := by
      by_cases e1 : (10 : Int) ^ (j + 1) < m
      · rw [if_pos e1]
        omega
      · rw [if_neg e1, if_pos (by omega)]
        omega
    have hng : ¬ mq .gt (if (10 : Int) ^ (j + 1) < m then -1 else if (10 : Int) ^ (j + 1) = m then 0 else 1 : Int) 0 := fun (z : (0 : Int) < _) => by omega
    refine jr_1 jm_278 (show jw_cd cd_278 19 = some (.lload 4) by decide +kernel) rfl ?_
    refine jr_1 jm_278 (show jw_cd cd_278 21 = some (.ldc2_w 359) by decide +kernel) (mt_l2 (x := 10) (n := 10) rfl (by decide)) ?_
    refine jr_1 jm_278 (show jw_cd cd_278 24 = some (.lmul) by decide +kernel) (mt_lmul (c := 10 ^ (j + 1)) (Int.pow_succ 10 _).symm) ?_
    refine jr_1 jm_278 (show jw_cd cd_278 25 = some (.lload_n 2) by decide +kernel) rfl ?_
    refine jr_1 jm_278 (show jw_cd cd_278 26 = some (.lcmp) by decide +kernel) (mt_cmp (r := (if (10 : Int) ^ (j + 1) < m then -1 else if (10 : Int) ^ (j + 1) = m then 0 else 1)) ⟨by omega, by omega⟩ ⟨by omega, by omega⟩ hr) ?_
    refine jr_1 jm_278 (show jw_cd cd_278 27 = some (.ifCond .gt 14) by decide +kernel) (mz_f (q := .gt) (a := (if (10 : Int) ^ (j + 1) < m then -1 else if (10 : Int) ^ (j + 1) = m then 0 else 1)) hng ⟨by omega, by omega⟩ (by decide)) ?_
    refine jr_1 jm_278 (show jw_cd cd_278 30 = some (.lload 4) by decide +kernel) rfl ?_
    refine jr_1 jm_278 (show jw_cd cd_278 32 = some (.ldc2_w 359) by decide +kernel) (mt_l2 (x := 10) (n := 10) rfl (by decide)) ?_
    refine jr_1 jm_278 (show jw_cd cd_278 35 = some (.lmul) by decide +kernel) (mt_lmul (c := 10 ^ (j + 1)) (Int.pow_succ 10 _).symm) ?_
    refine jr_1 jm_278 (F2 := (38, [some (.ref 15), some (.int (Int32.ofInt (n))), some (.long (Int64.ofInt (m))), none, some (.long (Int64.ofInt (10 ^ (j + 1)))), none], [], ml_mk h τ)) (show jw_cd cd_278 36 = some (.lstore 4) by decide +kernel) rfl ?_
    refine jr_1 jm_278 (show jw_cd cd_278 38 = some (.goto (-19)) by decide +kernel) (ju_go (t := 19) (by decide)) ?_
    exact ih (j + 1) (by omega)
theorem jn_decimal {β : Bool} {d : Nat} {h : jx_H} {σ : mS} (hl : 49 ≤ h.length) {n : Int} (hn : mr n) {τ : mS} {l : List Int} (hq : mEq [45, 46] σ τ) (hp : pap τ l) (h5 : l.length + 12 ≤ 500) : ∃ τ', jx_r (jz β) jw_M (d + 1) 278 (0, [some (.ref 15), some (.int (Int32.ofInt (n))), none, none, none, none], [], ml_mk h τ) (ml_mk h (τ'), .inl none) ∧ mEq [45, 46] σ τ' ∧ pap τ' (l ++ dec n) := by
  obtain ⟨n1, n2⟩ := hn
  unfold dec
  by_cases hneg : n < 0
  · rw [if_pos hneg]
    obtain ⟨k1, k2⟩ := kdg_spec 9 (-n) (by omega) (by show -n < 10000000000; omega)
    have k3 := kdg_le 9 (-n)
    obtain ⟨τ', r1, r2, r3⟩ := jn_dig (β := β) (d := d) (n := n) (m := -n) hl (by omega) (by omega) (kdg 9 (-n)) (mMark τ 45) (l ++ [45]) (by omega) (mEq_mark hq (by decide) (by decide)) (pap_mark hp) (by simp; omega)
    refine ⟨τ', ?_, r2, by rw [List.append_assoc] at r3; exact r3⟩
    refine jr_1 jm_278 (show jw_cd cd_278 0 = some (.iload_n 1) by decide +kernel) rfl ?_
    refine jr_1 jm_278 (show jw_cd cd_278 1 = some (.i2l) by decide +kernel) (mt_i2l ⟨by omega, by omega⟩) ?_
    refine jr_1 jm_278 (F2 := (3, [some (.ref 15), some (.int (Int32.ofInt (n))), some (.long (Int64.ofInt (n))), none, none, none], [], ml_mk h τ)) (show jw_cd cd_278 2 = some (.lstore_n 2) by decide +kernel) rfl ?_
    refine jr_1 jm_278 (show jw_cd cd_278 3 = some (.iload_n 1) by decide +kernel) rfl ?_
    refine jr_1 jm_278 (show jw_cd cd_278 4 = some (.ifCond .ge 12) by decide +kernel) (mz_f (q := .ge) (a := n) (by show ¬ (0 ≤ n); omega) ⟨by omega, by omega⟩ (by decide)) ?_
    refine jr_1 jm_278 (show jw_cd cd_278 7 = some (.aload_n 0) by decide +kernel) rfl ?_
    refine jr_1 jm_278 (show jw_cd cd_278 8 = some (.bipush 45) by decide +kernel) (mt_bi (by decide)) ?_
    refine jr_c jm_278 (show jw_cd cd_278 10 = some (.invokevirtual 356) by decide +kernel) (mc_v hl (n := 1) (m2 := 277) (bs := [.int (Int32.ofInt (45))]) (r := []) (show jw_find jw_cvT 34 356 = some (1, [(16, 277)]) by decide +kernel) (by decide) rfl rfl rfl) jm_277 ⟨Nat.le_of_ble_eq_true rfl, by decide⟩ (jn_markP hl hp (by omega)) ?_
    refine jr_1 jm_278 (show jw_cd cd_278 13 = some (.lload_n 2) by decide +kernel) rfl ?_
    refine jr_1 jm_278 (show jw_cd cd_278 14 = some (.lneg) by decide +kernel) (mt_lneg (c := -n) rfl) ?_
    refine jr_1 jm_278 (F2 := (16, [some (.ref 15), some (.int (Int32.ofInt (n))), some (.long (Int64.ofInt (-n))), none, none, none], [], ml_mk h (mMark τ (45)))) (show jw_cd cd_278 15 = some (.lstore_n 2) by decide +kernel) rfl ?_
    refine jr_1 jm_278 (F2 := (17, [some (.ref 15), some (.int (Int32.ofInt (n))), some (.long (Int64.ofInt (-n))), none, none, none], [.long (Int64.ofInt (1))], ml_mk h (mMark τ (45)))) (show jw_cd cd_278 16 = some (.lconst 1) by decide +kernel) rfl ?_
    refine jr_1 jm_278 (F2 := (19, [some (.ref 15), some (.int (Int32.ofInt (n))), some (.long (Int64.ofInt (-n))), none, some (.long (Int64.ofInt (1))), none], [], ml_mk h (mMark τ (45)))) (show jw_cd cd_278 17 = some (.lstore 4) by decide +kernel) rfl ?_
    exact jn_unit (σ := σ) hl (n := n) (m := -n) (by omega) (by omega) k3 k1 k2 r1 (kdg 9 (-n)) 0 (by omega)
  · rw [if_neg hneg]
    obtain ⟨k1, k2⟩ := kdg_spec 9 n (by omega) (by show n < 10000000000; omega)
    have k3 := kdg_le 9 n
    obtain ⟨τ', r1, r2, r3⟩ := jn_dig (β := β) (d := d) (n := n) (m := n) hl (by omega) (by omega) (kdg 9 n) τ l (by omega) hq hp (by omega)
    refine ⟨τ', ?_, r2, r3⟩
    refine jr_1 jm_278 (show jw_cd cd_278 0 = some (.iload_n 1) by decide +kernel) rfl ?_
    refine jr_1 jm_278 (show jw_cd cd_278 1 = some (.i2l) by decide +kernel) (mt_i2l ⟨by omega, by omega⟩) ?_
    refine jr_1 jm_278 (F2 := (3, [some (.ref 15), some (.int (Int32.ofInt (n))), some (.long (Int64.ofInt (n))), none, none, none], [], ml_mk h τ)) (show jw_cd cd_278 2 = some (.lstore_n 2) by decide +kernel) rfl ?_
    refine jr_1 jm_278 (show jw_cd cd_278 3 = some (.iload_n 1) by decide +kernel) rfl ?_
    refine jr_1 jm_278 (show jw_cd cd_278 4 = some (.ifCond .ge 12) by decide +kernel) (mz_t (q := .ge) (a := n) (t := 16) (by show 0 ≤ n; omega) ⟨by omega, by omega⟩ (by decide) (by decide)) ?_
    refine jr_1 jm_278 (F2 := (17, [some (.ref 15), some (.int (Int32.ofInt (n))), some (.long (Int64.ofInt (n))), none, none, none], [.long (Int64.ofInt (1))], ml_mk h τ)) (show jw_cd cd_278 16 = some (.lconst 1) by decide +kernel) rfl ?_
    refine jr_1 jm_278 (F2 := (19, [some (.ref 15), some (.int (Int32.ofInt (n))), some (.long (Int64.ofInt (n))), none, some (.long (Int64.ofInt (1))), none], [], ml_mk h τ)) (show jw_cd cd_278 17 = some (.lstore 4) by decide +kernel) rfl ?_
    exact jn_unit (σ := σ) hl (n := n) (m := n) (by omega) (by omega) k3 k1 k2 r1 (kdg 9 n) 0 (by omega)
