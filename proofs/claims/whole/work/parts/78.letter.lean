/-! ===== steps with the frame's parts apart; letter's first refusals, on any heap ===== -/
section JR
variable {T : jx_T} {M : Nat → Option jx_M} {d mi own nL pc : Nat} {rt : Option FieldType × Bool} {cd : Nat → Option Instr} {hd : Nat → Nat → Option Nat} {lo : jx_L} {st : List Value} {h : jx_H} {F2 : jx_F} {r : jx_R} {i : Instr}
theorem jr_1 (hM : M mi = some (own, nL, rt, cd, hd)) (hi : cd pc = some i) (hdo : jx_do T cd own pc rt i lo st h = some (.inl F2)) (k : jx_r T M d mi F2 r) : jx_r T M d mi (pc, lo, st, h) r := jx_r1 (F := (pc, lo, st, h)) hM hi hdo k
theorem jr_v (hM : M mi = some (own, nL, rt, cd, hd)) (hi : cd pc = some i) {v : Option Value} (hdo : jx_do T cd own pc rt i lo st h = some (.inr (.inr (.inl v)))) : jx_r T M d mi (pc, lo, st, h) (h, .inl v) := jx_rv (F := (pc, lo, st, h)) hM hi hdo
theorem jr_x (hM : M mi = some (own, nL, rt, cd, hd)) (hi : cd pc = some i) {a : Nat} {h2 : jx_H} (hdo : jx_do T cd own pc rt i lo st h = some (.inr (.inr (.inr (a, h2))))) : jx_r T M d mi (pc, lo, st, h) (h2, .inr a) := jx_rx (F := (pc, lo, st, h)) hM hi hdo
theorem jr_c (hM : M mi = some (own, nL, rt, cd, hd)) (hi : cd pc = some i) {m2 : Nat} {as s2 : List Value} (hdo : jx_do T cd own pc rt i lo st h = some (.inr (.inl (m2, as, s2)))) {own2 n2 : Nat} {rt2 : Option FieldType × Bool} {cd2 : Nat → Option Instr} {hd2 : Nat → Nat → Option Nat} (hM2 : M m2 = some (own2, n2, rt2, cd2, hd2)) (hl : (lg_sl as).length ≤ n2 ∧ m2 < 1000) {h2 : jx_H} {v : Option Value} (hc : jx_r T M d m2 (0, jx_in0 n2 as, [], h) (h2, .inl v)) (k : jx_r T M (d + 1) mi (pc + 3, lo, v.toList ++ s2, h2) r) : jx_r T M (d + 1) mi (pc, lo, st, h) r := jx_rc (F := (pc, lo, st, h)) hM hi hdo hM2 hl hc k
/-- an exception is made and thrown -/
theorem jr_new {k ic ci : Nat} (hx : jx_xc T own k = some (ic, ci)) (h3 : cd (pc + 3) = some .dup) (h4 : cd (pc + 4) = some (.invokespecial ic)) (h7 : cd (pc + 7) = some .athrow) (hb : h.length < jx_big) : jx_do T cd own pc rt (.new k) lo [] h = some (.inr (.inr (.inr (h.length, h ++ [.inr (ci, [])])))) := by
  simp only [jx_do, hx, h3, h4, h7, decide_eq_true hb]
  simp
theorem jr_br {q : Jvm.ClassFile.Cond} {off : Int} {t : Nat} {x y : Int32} {b : Bool} (e : jx_hold q x y = b) (h0 : 0 ≤ (pc : Int) + off) (ht : (bif b then jx_to pc off else some (pc + 3)) = some t) : jx_do T cd own pc rt (.if_icmp q off) lo (.int y :: .int x :: st) h = some (.inl (t, lo, st, h)) := by
  simp only [jx_do, e, jx_br, if_pos h0]
  cases b
  · cases ht
    rfl
  · simp only [jx_go]
    rw [show jx_to pc off = some t from ht]
end JR
theorem jm_114 : jw_M 114 = some (0, 2, (some .int, false), jw_cd cd_114, fun _ _ => none) := rfl
theorem jm_letter_lo {w : Nat → Bool} {d : Nat} {h : jx_H} {o : Value} (hb : h.length < jx_big) {x : Int32} (hx : x < 32) : jx_r (jw_TC w) jw_M d 114 (0, [some o, some (.int x)], [], h) (h ++ [.inr (8, [])], .inr h.length) := by
  refine jr_1 jm_114 (show jw_cd cd_114 0 = some (.iload_n 1) by decide +kernel) rfl ?_
  refine jr_1 jm_114 (show jw_cd cd_114 1 = some (.bipush 32) by decide +kernel) rfl ?_
  refine jr_1 jm_114 (show jw_cd cd_114 3 = some (.if_icmp .lt 9) by decide +kernel) (jr_br (b := true) (t := 12) (decide_eq_true hx) (by decide) (by decide)) ?_
  exact jr_x jm_114 (show jw_cd cd_114 12 = some (.new 75) by decide +kernel) (jr_new (ic := 77) (ci := 8) (show jw_find jw_xcT 0 75 = some (77, 8) by decide +kernel) (by decide +kernel) (by decide +kernel) (by decide +kernel) hb)
theorem jm_letter_hi {w : Nat → Bool} {d : Nat} {h : jx_H} {o : Value} (hb : h.length < jx_big) {x : Int32} (h1 : ¬ x < 32) (hx : ¬ x ≤ 126) : jx_r (jw_TC w) jw_M d 114 (0, [some o, some (.int x)], [], h) (h ++ [.inr (8, [])], .inr h.length) := by
  refine jr_1 jm_114 (show jw_cd cd_114 0 = some (.iload_n 1) by decide +kernel) rfl ?_
  refine jr_1 jm_114 (show jw_cd cd_114 1 = some (.bipush 32) by decide +kernel) rfl ?_
  refine jr_1 jm_114 (show jw_cd cd_114 3 = some (.if_icmp .lt 9) by decide +kernel) (jr_br (b := false) (t := 6) (decide_eq_false h1) (by decide) (by decide)) ?_
  refine jr_1 jm_114 (show jw_cd cd_114 6 = some (.iload_n 1) by decide +kernel) rfl ?_
  refine jr_1 jm_114 (show jw_cd cd_114 7 = some (.bipush 126) by decide +kernel) rfl ?_
  refine jr_1 jm_114 (show jw_cd cd_114 9 = some (.if_icmp .le 11) by decide +kernel) (jr_br (b := false) (t := 12) (decide_eq_false hx) (by decide) (by decide)) ?_
  exact jr_x jm_114 (show jw_cd cd_114 12 = some (.new 75) by decide +kernel) (jr_new (ic := 77) (ci := 8) (show jw_find jw_xcT 0 75 = some (77, 8) by decide +kernel) (by decide +kernel) (by decide +kernel) (by decide +kernel) hb)
