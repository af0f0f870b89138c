/-! ===== the law's whole run out of its calls ===== -/
section JWR
variable {L : Nat} {xs : Nat → Int32} {m o : Nat}
/-- call number c with the parameter x, on both sides: the answers are the same -/
def jw_op (L : Nat) (xs : Nat → Int32) (m o c : Nat) (x : Int32) (h h' : jx_H) : Prop := match c with
  | 0 => ∃ (h1 h2 : jx_H) (k b : Int32), jw_su L xs 1000 [.ref 0, .int x, .ref o] h (h1, .inl (some (.int k))) ∧ jx_cls (jw_TT L xs) h1 m = some 16 ∧ jw_su L xs 210 [.ref m, .int x] h1 (h2, .inl (some (.int b))) ∧ jx_cls (jw_TT L xs) h2 m = some 16 ∧ jw_su L xs 209 [.ref m] h2 (h', .inl (some (.int k))) ∧ (k = 0 → ∃ f : Nat → Value, jx_arr (jw_TT L xs) h' o = some (1, 1, f) ∧ f 0 = .long b.toInt64)
  | 1 => ∃ (h1 : jx_H) (k : Int32), jx_cls (jw_TT L xs) h 0 = some 0 ∧ jw_su L xs 56 [.ref 0] h (h1, .inl (some (.int k))) ∧ jx_cls (jw_TT L xs) h1 m = some 16 ∧ jw_su L xs 211 [.ref m] h1 (h', .inl (some (.int k)))
  | 2 => ∃ (h1 h2 : jx_H) (k b : Int32), jw_su L xs 1001 [.ref 0, .ref o] h (h1, .inl (some (.int k))) ∧ jx_cls (jw_TT L xs) h1 m = some 16 ∧ jw_su L xs 232 [.ref m] h1 (h2, .inl (some (.int b))) ∧ jx_cls (jw_TT L xs) h2 m = some 16 ∧ jw_su L xs 209 [.ref m] h2 (h', .inl (some (.int k))) ∧ (k = 0 → ∃ f : Nat → Value, jx_arr (jw_TT L xs) h' o = some (1, 1, f) ∧ f 0 = .long b.toInt64)
  | 3 => ∃ (h1 h2 : jx_H) (k b : Int32), jw_su L xs 1002 [.ref 0, .int x, .ref o] h (h1, .inl (some (.int k))) ∧ jx_cls (jw_TT L xs) h1 m = some 16 ∧ jw_su L xs 245 [.ref m, .int x] h1 (h2, .inl (some (.int b))) ∧ jx_cls (jw_TT L xs) h2 m = some 16 ∧ jw_su L xs 209 [.ref m] h2 (h', .inl (some (.int k))) ∧ (k = 0 → ∃ f : Nat → Value, jx_arr (jw_TT L xs) h' o = some (1, 1, f) ∧ f 0 = .long b.toInt64)
  | 4 => ∃ (h1 : jx_H) (k : Int32), jx_cls (jw_TT L xs) h 0 = some 0 ∧ jw_su L xs 106 [.ref 0] h (h1, .inl (some (.int k))) ∧ jx_cls (jw_TT L xs) h1 m = some 16 ∧ jw_su L xs 273 [.ref m] h1 (h', .inl (some (.int k)))
  | 5 => ∃ (h1 : jx_H) (k : Int32), jx_cls (jw_TT L xs) h 0 = some 0 ∧ jw_su L xs 107 [.ref 0, .int x] h (h1, .inl (some (.int k))) ∧ jx_cls (jw_TT L xs) h1 m = some 16 ∧ jw_su L xs 274 [.ref m, .int x] h1 (h', .inl (some (.int k)))
  | 6 => ∃ (h1 : jx_H) (k : Int32), jx_cls (jw_TT L xs) h 0 = some 0 ∧ jw_su L xs 109 [.ref 0, .int x] h (h1, .inl (some (.int k))) ∧ jx_cls (jw_TT L xs) h1 m = some 16 ∧ jw_su L xs 280 [.ref m, .int x] h1 (h', .inl (some (.int k)))
  | 7 => ∃ (h1 : jx_H) (k : Int32), jx_cls (jw_TT L xs) h 0 = some 0 ∧ jw_su L xs 112 [.ref 0, .int x] h (h1, .inl (some (.int k))) ∧ jx_cls (jw_TT L xs) h1 m = some 16 ∧ jw_su L xs 281 [.ref m, .int x] h1 (h', .inl (some (.int k)))
  | _ => False
theorem jv_loop {I : Nat → jx_H → Prop} (hL : L ≤ 1024) (hI : ∀ (n : Nat) (h : jx_H) (c : Nat), I n h → n + 2 ≤ L → c < 8 → xs n &&& 7 = Int32.ofNat c → ∃ h', jw_op L xs m o c (xs (n + 1)) h h' ∧ I (n + 2) h') (hE : ∀ (n : Nat) (h : jx_H), I n h → h.length ≤ 601024 ∧ jx_vol (jw_TT L xs) h ≤ 7293034) :
    ∀ (j n : Nat) (h : jx_H) (k b : Option Value), L < n + 2 + 2 * j → n ≤ L + 2 → I n h → jw_V L xs (23, jw_lo m o (Int32.ofNat n) k b, [], h) := by
  intro j
  induction j with
  | zero => intro n h k b h1 h2 hi; exact jv_out hL (by omega) (by omega) (hE n h hi)
  | succ j ih =>
    intro n h k b h1 h2 hi
    by_cases hn : n + 2 ≤ L
    · obtain ⟨c, h8, hc⟩ := jw_and7 (xs n)
      obtain ⟨h', hop, hi'⟩ := hI n h c hi hn h8 hc
      have kk : ∀ k b, jw_V L xs (23, jw_lo m o (Int32.ofNat (n + 2)) k b, [], h') := fun k b => ih (n + 2) h' k b (by omega) (by omega) hi'
      match c, h8, hc, hop with
      | 0, h8, hc, ⟨h1, h2, k, b, q1, c1, q2, c2, q3, q4⟩ => exact jv_in hL hn hc h8 rfl (by decide) (jv_letter hL hn q1 c1 q2 c2 q3 q4 (kk _ _))
      | 1, h8, hc, ⟨h1, k, c0, q1, c1, q2⟩ => exact jv_in hL hn hc h8 rfl (by decide) (jv_load hL hn c0 q1 c1 q2 (kk _ _))
      | 2, h8, hc, ⟨h1, h2, k, b, q1, c1, q2, c2, q3, q4⟩ => exact jv_in hL hn hc h8 rfl (by decide) (jv_query hL hn q1 c1 q2 c2 q3 q4 (kk _ _))
      | 3, h8, hc, ⟨h1, h2, k, b, q1, c1, q2, c2, q3, q4⟩ => exact jv_in hL hn hc h8 rfl (by decide) (jv_run hL hn q1 c1 q2 c2 q3 q4 (kk _ _))
      | 4, h8, hc, ⟨h1, k, c0, q1, c1, q2⟩ => exact jv_in hL hn hc h8 rfl (by decide) (jv_keep hL hn c0 q1 c1 q2 (kk _ _))
      | 5, h8, hc, ⟨h1, k, c0, q1, c1, q2⟩ => exact jv_in hL hn hc h8 rfl (by decide) (jv_result hL hn c0 q1 c1 q2 (kk _ _))
      | 6, h8, hc, ⟨h1, k, c0, q1, c1, q2⟩ => exact jv_in hL hn hc h8 rfl (by decide) (jv_written hL hn c0 q1 c1 q2 (kk _ _))
      | 7, h8, hc, ⟨h1, k, c0, q1, c1, q2⟩ => exact jv_in hL hn hc h8 rfl (by decide) (jv_about hL hn c0 q1 c1 q2 (kk _ _))
      | c + 8, h8, hc, hop => omega
    · exact jv_out hL (by omega) (by omega) (hE n h hi)
theorem jv_new {pc k ci : Nat} {lo : jx_L} {st : List Value} {h : jx_H} (hx : jw_find jw_xcT 22 k = none) (hn : jw_find jw_nwT 22 k = some ci) (hl : h.length < jx_big) : jx_do (jw_TT L xs) (jw_cd cd_law) 22 pc (some .boolean, false) (.new k) lo st h = some (.inl (pc + 3, lo, .ref h.length :: st, h ++ [.inr (ci, jw_nf ci)])) := by
  have e1 : jx_xc (jw_TT L xs) 22 k = none := hx
  have e2 : jx_nw (jw_TT L xs) 22 k = some ci := hn
  simp only [jx_do, e1, e2, jx_more, if_pos hl]
  rfl
theorem jv_cp {pc k ci m2 a : Nat} {lo : jx_L} {r : List Value} {h : jx_H} (ho : jw_oi 22 k = false) (hcp : jw_find jw_cpT 22 k = some (0, m2)) (hc : jx_cls (jw_TT L xs) h a = some ci) (h17 : ci < 17) (hw : jx_wt r = true) (ha : a < jx_big) : jx_do (jw_TT L xs) (jw_cd cd_law) 22 pc (some .boolean, false) (.invokespecial k) lo (.ref a :: r) h = some (.inr (.inl (m2, [.ref a], r))) := by
  have e0 : jx_oi (jw_TT L xs) 22 k = false := ho
  have e1 : jx_cp (jw_TT L xs) 22 k = some (0, fun ci => if ci < 17 then some m2 else none) := by
    show jw_cp 22 k = _
    unfold jw_cp
    rw [hcp]
  have e2 : jx_args 0 (.ref a :: r) = some ([], .ref a :: r) := by
    unfold jx_args
    rw [if_pos (Nat.zero_le _)]
    rfl
  simp only [jx_do, e0, e1, e2, hc, if_pos h17, hw, decide_eq_true ha]
  rfl
theorem jv_newl {pc : Nat} {lo : jx_L} {st : List Value} {h : jx_H} (hl : h.length < jx_big) : jx_do (jw_TT L xs) (jw_cd cd_law) 22 pc (some .boolean, false) (.newarray .long) lo (.int (Int32.ofInt 1) :: st) h = some (.inl (pc + 2, lo, .ref h.length :: st, h ++ [.inl (1, 1, fun _ => .long 0)])) := by
  have e1 : jx_ay (jw_TT L xs) .long = some 1 := rfl
  have e2 : (!(decide (Int32.ofInt 1 < 0)) && decide ((Int32.ofInt 1).toNatClampNeg ≤ 60000000)) = true := by decide
  simp only [jx_do, e1, jx_newa, jx_more, if_pos hl, if_pos e2]
  rfl
/-- from the law's first instruction to its loop -/
theorem jv_start {h1 h2 : jx_H} (hb1 : h1.length < jx_big) (hb2 : h2.length < jx_big) (q1 : jw_su L xs 0 [.ref 0] [.inr (0, jw_nf 0)] (h1, .inl none)) (q2 : jw_su L xs 207 [.ref h1.length] (h1 ++ [.inr (16, jw_nf 16)]) (h2, .inl none))
    (k : jw_V L xs (23, jw_lo h1.length h2.length (Int32.ofNat 0) none none, [], h2 ++ [.inl (1, 1, fun _ => .long 0)])) : jw_run L xs := by
  show jw_V L xs (0, [some (.ref (jx_big + 54)), none, none, none, none, none, none], [], [])
  refine jv_1 lc_0 rfl (jv_new (ci := 0) (by decide +kernel) (by decide +kernel) (by decide)) ?_
  refine jv_1 lc_3 (F2 := (4, _, [.ref 0, .ref 0], [.inr (0, jw_nf 0)])) rfl rfl ?_
  refine jv_c lc_4 rfl (jv_cp (ci := 0) (m2 := 0) (by decide +kernel) (by decide +kernel) rfl (by decide) rfl (by decide)) q1 ?_
  refine jv_1 lc_7 (F2 := (8, [some (.ref (jx_big + 54)), some (.ref 0), none, none, none, none, none], [], h1)) rfl rfl ?_
  refine jv_1 lc_8 rfl (jv_new (ci := 16) (by decide +kernel) (by decide +kernel) hb1) ?_
  refine jv_1 lc_11 (F2 := (12, _, [.ref h1.length, .ref h1.length], h1 ++ [.inr (16, jw_nf 16)])) rfl rfl ?_
  have hc : jx_cls (jw_TT L xs) (h1 ++ [.inr (16, jw_nf 16)]) h1.length = some 16 := by
    unfold jx_cls
    rw [if_pos hb1]
    simp
  refine jv_c lc_12 rfl (jv_cp (ci := 16) (m2 := 207) (by decide +kernel) (by decide +kernel) hc (by decide) rfl hb1) q2 ?_
  refine jv_1 lc_15 (F2 := (16, [some (.ref (jx_big + 54)), some (.ref 0), some (.ref h1.length), none, none, none, none], [], h2)) rfl rfl ?_
  refine jv_1 lc_16 rfl rfl ?_
  refine jv_1 lc_17 rfl (jv_newl hb2) ?_
  refine jv_1 lc_19 (F2 := (20, [some (.ref (jx_big + 54)), some (.ref 0), some (.ref h1.length), some (.ref h2.length), none, none, none], [], h2 ++ [.inl (1, 1, fun _ => .long 0)])) rfl rfl ?_
  refine jv_1 lc_20 rfl rfl ?_
  exact jv_1 lc_21 (F2 := (23, jw_lo h1.length h2.length (Int32.ofNat 0) none none, [], h2 ++ [.inl (1, 1, fun _ => .long 0)])) rfl rfl k
end JWR
