/-! ===== texts packed into longs ===== -/
theorem mb_amt : ∀ n : Fin 7, ((Int32.ofInt (7 * (6 - (n.val : Int)))).toInt64 &&& 63) = Int64.ofNat (7 * (6 - n.val)) := by decide
theorem mb_shlL {c : Int} {s : Nat} (hs : s < 64) : (Int64.ofInt c <<< Int64.ofNat s) = Int64.ofInt (c * 2 ^ s) := by
  apply Int64.toBitVec_inj.mp
  rw [Int64.toBitVec_shiftLeft]
  have e : ((Int64.ofNat s).toBitVec.smod 64) = BitVec.ofNat 64 s := by
    have : ∀ s : Fin 64, ((Int64.ofNat s.val).toBitVec.smod 64) = BitVec.ofNat 64 s.val := by decide
    exact this ⟨s, hs⟩
  rw [e]
  show BitVec.ofInt 64 c <<< (BitVec.ofNat 64 s) = BitVec.ofInt 64 (c * 2 ^ s)
  rw [BitVec.shiftLeft_eq', BitVec.toNat_ofNat, Nat.mod_eq_of_lt (by omega), BitVec.shiftLeft_eq_mul_twoPow, BitVec.ofInt_mul]
  congr 1
  apply BitVec.eq_of_toNat_eq
  rw [BitVec.toNat_twoPow]
  have : ∀ s : Fin 64, 2 ^ s.val % 2 ^ 64 = (BitVec.ofInt 64 (2 ^ s.val)).toNat := by decide
  exact this ⟨s, hs⟩
theorem mb_add (a b : Int) : Int64.ofInt (a + b) = Int64.ofInt a + Int64.ofInt b := Int64.ofInt_add a b
theorem mb_or {A c : Int} {s : Nat} (hs : s + 7 < 64) (h0 : 0 ≤ c) (h1 : c < 128) : (Int64.ofInt (A * 2 ^ (s + 7)) ||| Int64.ofInt (c * 2 ^ s)) = Int64.ofInt (A * 2 ^ (s + 7) + c * 2 ^ s) := by
  rw [mb_add]
  apply Int64.toBitVec_inj.mp
  rw [Int64.toBitVec_or, Int64.toBitVec_add]
  symm
  apply BitVec.add_eq_or_of_and_eq_zero
  have e1 := congrArg Int64.toBitVec (mb_shlL (c := A) (s := s + 7) (by omega))
  have e2 := congrArg Int64.toBitVec (mb_shlL (c := c) (s := s) (by omega))
  have es : ∀ s : Nat, s < 64 → ((Int64.ofNat s).toBitVec.smod 64) = BitVec.ofNat 64 s := by
    have : ∀ s : Fin 64, ((Int64.ofNat s.val).toBitVec.smod 64) = BitVec.ofNat 64 s.val := by decide
    exact fun s hs => this ⟨s, hs⟩
  rw [Int64.toBitVec_shiftLeft, es _ (by omega), BitVec.shiftLeft_eq', BitVec.toNat_ofNat, Nat.mod_eq_of_lt (by omega)] at e1 e2
  rw [← e1, ← e2]
  apply BitVec.eq_of_getLsbD_eq
  intro i hi
  rw [BitVec.getLsbD_and, BitVec.getLsbD_shiftLeft, BitVec.getLsbD_shiftLeft]
  have hz : (0#64).getLsbD i = false := by simp
  rw [hz]
  by_cases h7 : i < s + 7
  · simp [h7]
  · have hc : (Int64.ofInt c).toBitVec.getLsbD (i - s) = false := by
      have ec : (Int64.ofInt c).toBitVec = BitVec.ofNat 64 c.toNat := by
        show BitVec.ofInt 64 c = _
        apply BitVec.eq_of_toNat_eq
        rw [BitVec.toNat_ofInt, BitVec.toNat_ofNat]
        omega
      rw [ec]
      show Nat.testBit _ _ = false
      rw [BitVec.toNat_ofNat, Nat.mod_eq_of_lt (by omega)]
      exact Nat.testBit_lt_two_pow (Nat.lt_of_lt_of_le (show c.toNat < 2 ^ 7 by omega) (Nat.pow_le_pow_right (by decide) (by omega)))
    rw [hc]
    simp
theorem mb_bv {t : Int} (h0 : 0 ≤ t) (h1 : t < 2 ^ 63) : (Int64.ofInt t).toBitVec = BitVec.ofNat 64 t.toNat := by
  show BitVec.ofInt 64 t = _
  apply BitVec.eq_of_toNat_eq
  rw [BitVec.toNat_ofInt, BitVec.toNat_ofNat]
  omega
theorem mb_shr {t : Int} {s : Nat} (hs : s < 64) (h0 : 0 ≤ t) (h1 : t < 2 ^ 49) : ((Int64.ofInt t >>> Int64.ofNat s) &&& Int64.ofInt 127) = Int64.ofInt (t / 2 ^ s % 128) := by
  apply Int64.toBitVec_inj.mp
  have hq : 0 ≤ t / 2 ^ s % 128 ∧ t / 2 ^ s % 128 < 128 := by omega
  have ht : t.toNat < 2 ^ 49 := by omega
  rw [Int64.toBitVec_and, Int64.toBitVec_shiftRight, mb_bv h0 (by omega), mb_bv hq.1 (by omega), mb_bv (by decide) (by decide)]
  have e : ((Int64.ofNat s).toBitVec.smod 64) = BitVec.ofNat 64 s := by
    have : ∀ s : Fin 64, ((Int64.ofNat s.val).toBitVec.smod 64) = BitVec.ofNat 64 s.val := by decide
    exact this ⟨s, hs⟩
  rw [e]
  have hm : (BitVec.ofNat 64 t.toNat).msb = false := by
    rw [BitVec.msb_eq_false_iff_two_mul_lt, BitVec.toNat_ofNat, Nat.mod_eq_of_lt (by omega)]
    omega
  rw [BitVec.sshiftRight_eq', BitVec.sshiftRight_eq_of_msb_false hm]
  apply BitVec.eq_of_toNat_eq
  rw [BitVec.toNat_and, BitVec.toNat_ushiftRight, BitVec.toNat_ofNat, BitVec.toNat_ofNat, BitVec.toNat_ofNat, BitVec.toNat_ofNat, Nat.mod_eq_of_lt (by omega : t.toNat < 2 ^ 64), Nat.mod_eq_of_lt (by omega : s < 2 ^ 64), Nat.shiftRight_eq_div_pow]
  have e127 : (127 : Int).toNat % 2 ^ 64 = 2 ^ 7 - 1 := by decide
  rw [e127, Nat.and_two_pow_sub_one_eq_mod, Nat.mod_eq_of_lt (by omega : (t / 2 ^ s % 128).toNat < 2 ^ 64)]
  have et : t = (t.toNat : Int) := by omega
  have e2 : t / 2 ^ s % 128 = ((t.toNat / 2 ^ s % 128 : Nat) : Int) := by
    conv => lhs; rw [et]
    push_cast
    rfl
  rw [e2]
  rfl
section MB
variable {T : jx_T} {cd : Nat → Option Instr} {own pc : Nat} {rt : Option FieldType × Bool} {lo : jx_L} {st : List Value} {h : jx_H}
theorem mt_i2l {a : Int} (ha : mr a) : jx_do T cd own pc rt .i2l lo (.int (Int32.ofInt a) :: st) h = some (.inl (pc + 1, lo, .long (Int64.ofInt a) :: st, h)) := by
  have e : (Int32.ofInt a).toInt64 = Int64.ofInt a := by
    apply Int64.toInt_inj.mp
    rw [Int32.toInt_toInt64, mr_i ha, Int64.toInt_ofInt_of_le (by have := ha.1; show (-2 ^ 63 : Int) ≤ a; omega) (by have := ha.2; show a < (2 ^ 63 : Int); omega)]
  simp only [jx_do, e]
theorem mt_l2i {a : Int} : jx_do T cd own pc rt .l2i lo (.long (Int64.ofInt a) :: st) h = some (.inl (pc + 1, lo, .int (Int32.ofInt a) :: st, h)) := by
  have e : (Int64.ofInt a).toInt32 = Int32.ofInt a := Int64.toInt32_ofInt
  simp only [jx_do, e]
/-- c << 7 * (6 - n) -/
theorem mt_shl {c n b r : Int} (h0 : 0 ≤ n) (h6 : n ≤ 6) (hb : b = 7 * (6 - n)) (hr : c * 2 ^ (7 * (6 - n.toNat)) = r) : jx_do T cd own pc rt .lshl lo (.int (Int32.ofInt b) :: .long (Int64.ofInt c) :: st) h = some (.inl (pc + 1, lo, .long (Int64.ofInt r) :: st, h)) := by
  have hn : (n.toNat : Int) = n := by omega
  have e := mb_amt ⟨n.toNat, by omega⟩
  dsimp only at e
  rw [hn, ← hb] at e
  simp only [jx_do, e]
  rw [mb_shlL (by omega), hr]
theorem mt_shr {t n b r : Int} (h0 : 0 ≤ n) (h6 : n ≤ 6) (hb : b = 7 * (6 - n)) (hr : t / 2 ^ (7 * (6 - n.toNat)) % 128 = r) (t0 : 0 ≤ t) (t1 : t < 2 ^ 49) : (jx_do T cd own pc rt .lshr lo (.int (Int32.ofInt b) :: .long (Int64.ofInt t) :: st) h = some (.inl (pc + 1, lo, .long (Int64.ofInt t >>> Int64.ofNat (7 * (6 - n.toNat))) :: st, h))) := by
  have hn : (n.toNat : Int) = n := by omega
  have e := mb_amt ⟨n.toNat, by omega⟩
  dsimp only at e
  rw [hn, ← hb] at e
  simp only [jx_do, e]
theorem mt_and {t n r : Int} (h6 : n ≤ 6) (hr : t / 2 ^ (7 * (6 - n.toNat)) % 128 = r) (t0 : 0 ≤ t) (t1 : t < 2 ^ 49) : jx_do T cd own pc rt .land lo (.long 127 :: .long (Int64.ofInt t >>> Int64.ofNat (7 * (6 - n.toNat))) :: st) h = some (.inl (pc + 1, lo, .long (Int64.ofInt r) :: st, h)) := by
  have e := mb_shr (t := t) (s := 7 * (6 - n.toNat)) (by omega) t0 t1
  have e127 : (127 : Int64) = Int64.ofInt 127 := by decide
  simp only [jx_do]
  rw [e127, e, hr]
theorem mt_or {A c r : Int} {s : Nat} (hs : s + 7 < 64) (h0 : 0 ≤ c) (h1 : c < 128) {x y : Int} (hx : x = A * 2 ^ (s + 7)) (hy : y = c * 2 ^ s) (hr : x + y = r) : jx_do T cd own pc rt .lor lo (.long (Int64.ofInt y) :: .long (Int64.ofInt x) :: st) h = some (.inl (pc + 1, lo, .long (Int64.ofInt r) :: st, h)) := by
  have e := mb_or (A := A) hs h0 h1
  rw [← hx, ← hy, hr] at e
  simp only [jx_do, e]
end MB
