/-! ===== the class: readIndexOrSlice as a whole, countStep (printed by program: gen111.py) ===== -/
theorem jm_133 : jw_M 133 = some (7, 2, (none, false), jw_cd cd_133, fun _ _ => none) := rfl
def sNm3 (T : Int → Int) (n : Int) (a b : Option Int) (q2 : Int) : Int ⊕ (sE × Int) := if tH T n q2 = 58 then (match sOpt T n (q2 + 1) true with
  | .inl e => .inl e
  | .inr (c, q3) => .inr ((5, [], nmb a b c, 0, nsd, nsd), q3)) else .inr ((5, [], nmb a b none, 0, nsd, nsd), q2)
def sNmA (T : Int → Int) (n p : Int) : Int ⊕ (sE × Int) := match sOpt T n p false with
  | .inl e => .inl e
  | .inr (a, q) => if tH T n q = 58 then (match sOpt T n (q + 1) false with
      | .inl e => .inl e
      | .inr (b, q2) => sNm3 T n a b q2)
    else if a = none then .inl q else .inr ((1, [], nmb a none none, 0, nsd, nsd), q)
theorem sNmA_c (T : Int → Int) (n p : Int) : sNmb T n p = cl93 T n (sNmA T n p) := by
  unfold sNmb sNmA sNe
  cases sOpt T n p false with
  | inl e => rfl
  | inr x =>
    obtain ⟨a, q⟩ := x
    show (if tH T n q = 58 then _ else _) = cl93 T n (if tH T n q = 58 then _ else _)
    by_cases hc : tH T n q = 58
    · rw [if_pos hc, if_pos hc]
      cases sOpt T n (q + 1) false with
      | inl e => rfl
      | inr x =>
        obtain ⟨b, q2⟩ := x
        unfold sNm3
        show (if tH T n q2 = 58 then _ else _) = cl93 T n (if tH T n q2 = 58 then _ else _)
        by_cases hd : tH T n q2 = 58
        · rw [if_pos hd, if_pos hd]
          cases sOpt T n (q2 + 1) true with
          | inl e => rfl
          | inr x => rfl
        · rw [if_neg hd, if_neg hd]
          rfl
    · rw [if_neg hc, if_neg hc]
      by_cases hd : a = none
      · rw [if_pos hd, if_pos hd]
        rfl
      · rw [if_neg hd, if_neg hd]
        rfl
theorem spSl {a b c : Option Int} {fs x es y z : Int} (ha : (a = none → fs = 0) ∧ (∀ w, a = some w → fs = 1 ∧ x = w)) (hb : (b = none → es = 0) ∧ (∀ w, b = some w → es = 1 ∧ y = w)) (hc : z = (match c with | none => 1 | some w => w)) : cfr (5, [], nmb a b c, 0, nsd, nsd) = (if fs = 1 then x else if 0 < z then 0 else 1000000) ∧ cen (5, [], nmb a b c, 0, nsd, nsd) = (if es = 1 then y else if 0 < z then 1000000 else -1000000) ∧ cby (5, [], nmb a b c, 0, nsd, nsd) = z := by
  have hz : slC (nmb a b c) = z := by
    rw [hc]
    cases a <;> cases b <;> cases c <;> simp [slC, nmb, bit1, nm0]
  refine ⟨?_, ?_, hz⟩
  · show (if (nmb a b c).1 % 2 = 1 then nm0 a else if 0 < slC (nmb a b c) then 0 else 1000000) = _
    rw [hz]
    cases a with
    | none =>
      rw [ha.1 rfl]
      rw [if_neg (by cases b <;> cases c <;> simp [nmb, bit1]), if_neg (show ¬ (0 : Int) = 1 by decide)]
    | some w =>
      obtain ⟨e1, e2⟩ := ha.2 w rfl
      rw [e1, e2]
      rw [if_pos (by cases b <;> cases c <;> simp [nmb, bit1]), if_pos rfl]
      rfl
  · show (if (nmb a b c).1 / 2 % 2 = 1 then nm0 b else if 0 < slC (nmb a b c) then 1000000 else -1000000) = _
    rw [hz]
    cases b with
    | none =>
      rw [hb.1 rfl]
      rw [if_neg (by cases a <;> cases c <;> simp [nmb, bit1]), if_neg (show ¬ (0 : Int) = 1 by decide)]
    | some w =>
      obtain ⟨e1, e2⟩ := hb.2 w rfl
      rw [e1, e2]
      rw [if_pos (by cases a <;> cases c <;> simp [nmb, bit1]), if_pos rfl]
      rfl
theorem newc {h : jx_H} {N : Nat} {c : jx_C} (hN : h.length = N) : (h ++ [c])[N]? = some c := by
  rw [← hN, List.getElem?_append_right (Nat.le_refl _), Nat.sub_self]
  rfl
theorem sp_Sl {h : jx_H} {N : Nat} {X : Nat → Prop} {a b c : Option Int} {fs x es y z : Int} (hl : 50 ≤ h.length) (hN : h.length = N) (hb32 : N < 2700000000) (hx : ∀ c, N ≤ c → ¬ X c) (ha : (a = none → fs = 0) ∧ (∀ w, a = some w → fs = 1 ∧ x = w)) (hb : (b = none → es = 0) ∧ (∀ w, b = some w → es = 1 ∧ y = w)) (hc : z = (match c with | none => 1 | some w => w)) : spR (h ++ [.inr (14, [.int (Int32.ofInt (2)), .ref (jx_big + 9), .int (Int32.ofInt (if fs = 1 then x else if 0 < z then 0 else 1000000)), .int (Int32.ofInt (if es = 1 then y else if 0 < z then 1000000 else -1000000)), .int (Int32.ofInt (z)), .null, .int (Int32.ofInt (0)), .null])]) X N (5, [], nmb a b c, 0, nsd, nsd) := by
  obtain ⟨e1, e2, e3⟩ := spSl ha hb hc
  refine ⟨⟨by omega, by omega, hx N (Nat.le_refl _)⟩, jx_big + 9, .null, .null, ?_, emp_str, fun z => absurd z (show ¬ (5 : Int) = 4 by decide)⟩
  rw [newc hN, e1, e2, e3]
  rfl
theorem sp_Ix {h : jx_H} {N : Nat} {X : Nat → Prop} {x y : Int} (hl : 50 ≤ h.length) (hN : h.length = N) (hb32 : N < 2700000000) (hx : ∀ c, N ≤ c → ¬ X c) (hy : x = y) : spR (h ++ [.inr (14, [.int (Int32.ofInt (1)), .ref (jx_big + 9), .int (Int32.ofInt (x)), .int (Int32.ofInt (1000000)), .int (Int32.ofInt (1)), .null, .int (Int32.ofInt (0)), .null])]) X N (1, [], nmb (some y) none none, 0, nsd, nsd) := by
  refine ⟨⟨by omega, by omega, hx N (Nat.le_refl _)⟩, jx_big + 9, .null, .null, ?_, emp_str, fun z => absurd z (show ¬ (1 : Int) = 4 by decide)⟩
  rw [newc hN, hy]
  rfl
theorem jc_ix {β : Bool} {d : Nat} {h : jx_H} {κ : mS} (hl : 50 ≤ h.length) {N : Nat} (hN : h.length = N) (hb32 : N < 2700000000) {X : Nat → Prop} (hx : ∀ c, N ≤ c → ¬ X c) {T : Int → Int} {n p : Int} (hP : cP κ T n p) (hsc : 0 ≤ κ 7 0 ∧ κ 7 0 ≤ 16) : ∃ (κ' : mS) (L : List jx_C) (b : Nat) (fs : List Value), jx_r (jz β) jw_M (d + 9) 151 (0, [some (.ref 6), none, none, none, none, none, none, none], [], (cl_mk h κ)) (cl_mk (h ++ L) (κ'), .inl (some (.ref (b)))) ∧ (h ++ L)[b]? = some (.inr (14, fs)) ∧ (50 ≤ b ∧ b < 4000000000) ∧ L.length ≤ 64 ∧ cvol L ≤ 250 ∧ mEq [4, 5, 7, 8, 15] κ κ' ∧ (0 ≤ κ' 7 0 ∧ κ' 7 0 ≤ 16) ∧ (∀ e q, sNmA T n p = .inr (e, q) → spR (h ++ L) X b e ∧ cP κ' T n q) ∧ (∀ e, sNmA T n p = .inl e → cE κ' T n e) := by
  obtain ⟨κ1, fs, x, k1, hf, x1, m1, a1, b1⟩ := jc_ix1 (β := β) (d := d + 7) hl hP
  have M1 : mEq [4, 5, 7, 8, 15] κ κ1 := mEq_sub m1 (by decide)
  have S1 : 0 ≤ κ1 7 0 ∧ κ1 7 0 ≤ 16 := by rw [m1 7 (by decide)]; exact hsc
  cases hs1 : sOpt T n p false with
  | inl e1 =>
    have e0 : sNmA T n p = .inl e1 := by unfold sNmA; rw [hs1]
    have hE := b1 e1 hs1
    refine ⟨κ1, [.inr (14, [.int (Int32.ofInt (1)), .ref (jx_big + 9), .int (Int32.ofInt (x)), .int (Int32.ofInt (1000000)), .int (Int32.ofInt (1)), .null, .int (Int32.ofInt (0)), .null])], N, _, k1 _ (jc_ixIW hl hN hb32 hE.2.1), newc hN, ⟨by omega, by omega⟩, (by show (1 : Nat) ≤ 64; decide), (by show (8 : Nat) ≤ 250; decide), M1, S1, fun e q hh => (by rw [e0] at hh; cases hh), fun e hh => by rw [e0] at hh; injection hh with hh; rw [← hh]; exact hE⟩
  | inr y1 =>
    obtain ⟨a, q⟩ := y1
    obtain ⟨c1, c2, c3⟩ := a1 a q hs1
    by_cases h58 : tH T n q = 58
    · have hPq : cP κ1 T n q ∧ (a = none → fs = 0) ∧ (∀ w, a = some w → fs = 1 ∧ x = w) := by
        cases a with
        | none => exact ⟨(c2 rfl h58).2, fun _ => (c2 rfl h58).1, fun w hw => (by cases hw)⟩
        | some w => exact ⟨(c3 w rfl).2.2, fun z => (by cases z), fun w' hw => by injection hw with hw; rw [← hw]; exact ⟨(c3 w rfl).1, (c3 w rfl).2.1⟩⟩
      obtain ⟨hPq, ha⟩ := hPq
      have hpn : q < n := (tH_r hPq.1.2.2 hPq.2.2.2.1).2.2.2 (by rw [h58]; decide)
      have hq0 := hPq.2.2.2.1
      have hP2 : cP (su κ1 4 0 (q + 1)) T n (q + 1) := cP_mv hPq (by omega) (by omega)
      obtain ⟨κ2, es, y, k2, he, y1, m2, a2, b2⟩ := jc_ix2 (β := β) (d := d + 7) (fs := fs) (x := x) hl hP2
      have M2 : mEq [4, 5, 7, 8, 15] κ κ2 := mEq_trans (mEq_su M1 (by decide)) (mEq_sub m2 (by decide))
      have S2 : 0 ≤ κ2 7 0 ∧ κ2 7 0 ≤ 16 := by rw [m2 7 (by decide), su_nf (by decide)]; exact S1
      cases hs2 : sOpt T n (q + 1) false with
      | inl e2 =>
        have e0 : sNmA T n p = .inl e2 := by unfold sNmA; rw [hs1]; exact (if_pos h58).trans (by rw [hs2])
        have hE := b2 e2 hs2
        refine ⟨κ2, [.inr (14, [.int (Int32.ofInt (2)), .ref (jx_big + 9), .int (Int32.ofInt (if fs = 1 then x else if 0 < (1 : Int) then 0 else 1000000)), .int (Int32.ofInt (if es = 1 then y else if 0 < (1 : Int) then 1000000 else -1000000)), .int (Int32.ofInt (1)), .null, .int (Int32.ofInt (0)), .null])], N, _, k1 _ (jc_ixS hl hPq h58 (k2 _ (jc_ix3W hl hE.2.1 (jc_ixF hl hN hb32 hf he ⟨by decide, by decide⟩)))), newc hN, ⟨by omega, by omega⟩, (by show (1 : Nat) ≤ 64; decide), (by show (8 : Nat) ≤ 250; decide), M2, S2, fun e q hh => (by rw [e0] at hh; cases hh), fun e hh => by rw [e0] at hh; injection hh with hh; rw [← hh]; exact hE⟩
      | inr y2 =>
        obtain ⟨b, q2⟩ := y2
        obtain ⟨hP3, hb⟩ := a2 b q2 hs2
        have e1 : sNmA T n p = sNm3 T n a b q2 := by unfold sNmA; rw [hs1]; exact (if_pos h58).trans (by rw [hs2])
        by_cases h58b : tH T n q2 = 58
        · obtain ⟨κ3, z, k3, z1, m3, a3, b3⟩ := jc_ix3 (β := β) (d := d + 6) (fs := fs) (x := x) (es := es) (y := y) hl hP3 h58b
          have M3 : mEq [4, 5, 7, 8, 15] κ κ3 := mEq_trans M2 (mEq_sub m3 (by decide))
          have S3 : 0 ≤ κ3 7 0 ∧ κ3 7 0 ≤ 16 := by rw [m3 7 (by decide)]; exact S2
          cases hs3 : sOpt T n (q2 + 1) true with
          | inl e3 =>
            have e0 : sNmA T n p = .inl e3 := by rw [e1]; unfold sNm3; exact (if_pos h58b).trans (by rw [hs3])
            have hE := b3 e3 hs3
            refine ⟨κ3, [.inr (14, [.int (Int32.ofInt (2)), .ref (jx_big + 9), .int (Int32.ofInt (if fs = 1 then x else if 0 < z then 0 else 1000000)), .int (Int32.ofInt (if es = 1 then y else if 0 < z then 1000000 else -1000000)), .int (Int32.ofInt (z)), .null, .int (Int32.ofInt (0)), .null])], N, _, k1 _ (jc_ixS hl hPq h58 (k2 _ (k3 _ (jc_ixF hl hN hb32 hf he z1)))), newc hN, ⟨by omega, by omega⟩, (by show (1 : Nat) ≤ 64; decide), (by show (8 : Nat) ≤ 250; decide), M3, S3, fun e q hh => (by rw [e0] at hh; cases hh), fun e hh => by rw [e0] at hh; injection hh with hh; rw [← hh]; exact hE⟩
          | inr y3 =>
            obtain ⟨c, q3⟩ := y3
            have e0 : sNmA T n p = .inr ((5, [], nmb a b c, 0, nsd, nsd), q3) := by rw [e1]; unfold sNm3; exact (if_pos h58b).trans (by rw [hs3])
            obtain ⟨hP4, hc⟩ := a3 c q3 hs3
            refine ⟨κ3, [.inr (14, [.int (Int32.ofInt (2)), .ref (jx_big + 9), .int (Int32.ofInt (if fs = 1 then x else if 0 < z then 0 else 1000000)), .int (Int32.ofInt (if es = 1 then y else if 0 < z then 1000000 else -1000000)), .int (Int32.ofInt (z)), .null, .int (Int32.ofInt (0)), .null])], N, _, k1 _ (jc_ixS hl hPq h58 (k2 _ (k3 _ (jc_ixF hl hN hb32 hf he z1)))), newc hN, ⟨by omega, by omega⟩, (by show (1 : Nat) ≤ 64; decide), (by show (8 : Nat) ≤ 250; decide), M3, S3, fun e q hh => by rw [e0] at hh; injection hh with hh; injection hh with z1 z2; rw [← z1, ← z2]; exact ⟨sp_Sl hl hN hb32 hx ha hb hc, hP4⟩, fun e hh => (by rw [e0] at hh; cases hh)⟩
        · have e0 : sNmA T n p = .inr ((5, [], nmb a b none, 0, nsd, nsd), q2) := by rw [e1]; exact if_neg h58b
          refine ⟨κ2, [.inr (14, [.int (Int32.ofInt (2)), .ref (jx_big + 9), .int (Int32.ofInt (if fs = 1 then x else if 0 < (1 : Int) then 0 else 1000000)), .int (Int32.ofInt (if es = 1 then y else if 0 < (1 : Int) then 1000000 else -1000000)), .int (Int32.ofInt (1)), .null, .int (Int32.ofInt (0)), .null])], N, _, k1 _ (jc_ixS hl hPq h58 (k2 _ (jc_ix3n hl hP3 h58b (jc_ixF hl hN hb32 hf he ⟨by decide, by decide⟩)))), newc hN, ⟨by omega, by omega⟩, (by show (1 : Nat) ≤ 64; decide), (by show (8 : Nat) ≤ 250; decide), M2, S2, fun e q hh => by rw [e0] at hh; injection hh with hh; injection hh with z1 z2; rw [← z1, ← z2]; exact ⟨sp_Sl (z := 1) (c := none) hl hN hb32 hx ha hb rfl, hP3⟩, fun e hh => (by rw [e0] at hh; cases hh)⟩
    · cases a with
      | none =>
        have e0 : sNmA T n p = .inl q := by unfold sNmA; rw [hs1]; exact (if_neg h58).trans (if_pos rfl)
        have hE := c1 rfl h58
        refine ⟨κ1, [.inr (14, [.int (Int32.ofInt (1)), .ref (jx_big + 9), .int (Int32.ofInt (x)), .int (Int32.ofInt (1000000)), .int (Int32.ofInt (1)), .null, .int (Int32.ofInt (0)), .null])], N, _, k1 _ (jc_ixIW hl hN hb32 hE.2.1), newc hN, ⟨by omega, by omega⟩, (by show (1 : Nat) ≤ 64; decide), (by show (8 : Nat) ≤ 250; decide), M1, S1, fun e q hh => (by rw [e0] at hh; cases hh), fun e hh => by rw [e0] at hh; injection hh with hh; rw [← hh]; exact hE⟩
      | some w =>
        have e0 : sNmA T n p = .inr ((1, [], nmb (some w) none none, 0, nsd, nsd), q) := by unfold sNmA; rw [hs1]; exact (if_neg h58).trans (if_neg (fun z => by cases z))
        obtain ⟨f1, f2, f3⟩ := c3 w rfl
        refine ⟨κ1, [.inr (14, [.int (Int32.ofInt (1)), .ref (jx_big + 9), .int (Int32.ofInt (x)), .int (Int32.ofInt (1000000)), .int (Int32.ofInt (1)), .null, .int (Int32.ofInt (0)), .null])], N, _, k1 _ (jc_ixI hl hN hb32 f3 h58), newc hN, ⟨by omega, by omega⟩, (by show (1 : Nat) ≤ 64; decide), (by show (8 : Nat) ≤ 250; decide), M1, S1, fun e q hh => by rw [e0] at hh; injection hh with hh; injection hh with z1 z2; rw [← z1, ← z2]; exact ⟨sp_Ix hl hN hb32 hx f2, f3⟩, fun e hh => (by rw [e0] at hh; cases hh)⟩
theorem jc_count {β : Bool} {d : Nat} {h : jx_H} {κ : mS} (hl : 50 ≤ h.length) {T : Int → Int} {n p q : Int} {kk : Nat} (hP : cP κ T n q) (hp : 0 ≤ p ∧ p ≤ n) (e9 : κ 9 0 = ((kk : Nat) : Int)) : (kk < 12 → jx_r (jz β) jw_M (d + 1) 133 (0, [some (.ref 6), some (.int (Int32.ofInt (p)))], [], (cl_mk h κ)) (cl_mk h ((su κ 9 (0) (((kk : Nat) : Int) + 1))), .inl none) ∧ cP (su κ 9 (0) (((kk : Nat) : Int) + 1)) T n q) ∧ (kk = 12 → jx_r (jz β) jw_M (d + 1) 133 (0, [some (.ref 6), some (.int (Int32.ofInt (p)))], [], (cl_mk h κ)) (cl_mk h ((su (su κ 9 (0) (((kk : Nat) : Int) + 1)) 5 (0) (p))), .inl none) ∧ cE (su (su κ 9 (0) (((kk : Nat) : Int) + 1)) 5 (0) (p)) T n p) := by
  have hP1 : cP (su κ 9 (0) (((kk : Nat) : Int) + 1)) T n q := cP_q (L := [9]) hP (mEq_su (mEq_refl _ _) (by decide)) (by decide)
  have hn160 := hP.1.2.2.2.1
  refine ⟨fun h12 => ⟨?_, hP1⟩, fun h12 => ⟨?_, cP_w hP1 hp.1 (by omega)⟩⟩
  · refine jr_1 jm_133 (show jw_cd cd_133 0 = some (.aload_n 0) by decide +kernel) rfl ?_
    refine jr_1 jm_133 (show jw_cd cd_133 1 = some (.dup) by decide +kernel) rfl ?_
    refine jr_1 jm_133 (show jw_cd cd_133 2 = some (.getfield 15) by decide +kernel) (cg_9 (e := ((kk : Nat) : Int)) e9 (show jw_fld 7 15 4 = some 1 by decide +kernel)) ?_
    refine jr_1 jm_133 (show jw_cd cd_133 5 = some (.iconst 1) by decide +kernel) rfl ?_
    refine jr_1 jm_133 (show jw_cd cd_133 6 = some (.iadd) by decide +kernel) (mt_add (c := ((kk : Nat) : Int) + 1) rfl) ?_
    refine jr_1 jm_133 (show jw_cd cd_133 7 = some (.putfield 15) by decide +kernel) (cp_9 (x := ((kk : Nat) : Int) + 1) (show jw_fld 7 15 4 = some 1 by decide +kernel) (show jw_fm 7 4 1 = some false by decide +kernel)) ?_
    refine jr_1 jm_133 (show jw_cd cd_133 10 = some (.aload_n 0) by decide +kernel) rfl ?_
    refine jr_1 jm_133 (show jw_cd cd_133 11 = some (.getfield 15) by decide +kernel) (cg_9 (e := ((kk : Nat) : Int) + 1) (su_eq _ _ _ _) (show jw_fld 7 15 4 = some 1 by decide +kernel)) ?_
    refine jr_1 jm_133 (show jw_cd cd_133 14 = some (.bipush 12) by decide +kernel) (mt_bi (by decide)) ?_
    refine jr_1 jm_133 (show jw_cd cd_133 16 = some (.if_icmp .le 11) by decide +kernel) (mb_t (q := .le) (a := ((kk : Nat) : Int) + 1) (b := 12) (t := 27) (by show ((kk : Nat) : Int) + 1 ≤ 12; omega) ⟨by omega, by omega⟩ ⟨by omega, by omega⟩ (by decide) (by decide)) ?_
    exact jr_v jm_133 (show jw_cd cd_133 27 = some (.return_) by decide +kernel) rfl
  · refine jr_1 jm_133 (show jw_cd cd_133 0 = some (.aload_n 0) by decide +kernel) rfl ?_
    refine jr_1 jm_133 (show jw_cd cd_133 1 = some (.dup) by decide +kernel) rfl ?_
    refine jr_1 jm_133 (show jw_cd cd_133 2 = some (.getfield 15) by decide +kernel) (cg_9 (e := ((kk : Nat) : Int)) e9 (show jw_fld 7 15 4 = some 1 by decide +kernel)) ?_
    refine jr_1 jm_133 (show jw_cd cd_133 5 = some (.iconst 1) by decide +kernel) rfl ?_
    refine jr_1 jm_133 (show jw_cd cd_133 6 = some (.iadd) by decide +kernel) (mt_add (c := ((kk : Nat) : Int) + 1) rfl) ?_
    refine jr_1 jm_133 (show jw_cd cd_133 7 = some (.putfield 15) by decide +kernel) (cp_9 (x := ((kk : Nat) : Int) + 1) (show jw_fld 7 15 4 = some 1 by decide +kernel) (show jw_fm 7 4 1 = some false by decide +kernel)) ?_
    refine jr_1 jm_133 (show jw_cd cd_133 10 = some (.aload_n 0) by decide +kernel) rfl ?_
    refine jr_1 jm_133 (show jw_cd cd_133 11 = some (.getfield 15) by decide +kernel) (cg_9 (e := ((kk : Nat) : Int) + 1) (su_eq _ _ _ _) (show jw_fld 7 15 4 = some 1 by decide +kernel)) ?_
    refine jr_1 jm_133 (show jw_cd cd_133 14 = some (.bipush 12) by decide +kernel) (mt_bi (by decide)) ?_
    refine jr_1 jm_133 (show jw_cd cd_133 16 = some (.if_icmp .le 11) by decide +kernel) (mb_f (q := .le) (a := ((kk : Nat) : Int) + 1) (b := 12) (by show ¬ (((kk : Nat) : Int) + 1 ≤ 12); omega) ⟨by omega, by omega⟩ ⟨by omega, by omega⟩ (by decide)) ?_
    refine jr_1 jm_133 (show jw_cd cd_133 19 = some (.aload_n 0) by decide +kernel) rfl ?_
    refine jr_1 jm_133 (show jw_cd cd_133 20 = some (.getfield 9) by decide +kernel) (cgr_6_0 (show jw_fld 7 9 4 = some 0 by decide +kernel)) ?_
    refine jr_1 jm_133 (show jw_cd cd_133 23 = some (.iload_n 1) by decide +kernel) rfl ?_
    refine jr_c jm_133 (show jw_cd cd_133 24 = some (.invokevirtual 70) by decide +kernel) (ccv (n := 1) (m2 := 62) (ci := 1) (a := 1) (bs := [.int (Int32.ofInt (p))]) (r := []) (js_cls cl_c1 (by decide)) (show jw_find jw_cvT 7 70 = some (1, [(1, 62)]) by decide +kernel) (by decide) rfl rfl rfl) jm_62 ⟨Nat.le_of_ble_eq_true rfl, by decide⟩ (jc_wrongAt hl hP1) ?_
    exact jr_v jm_133 (show jw_cd cd_133 27 = some (.return_) by decide +kernel) rfl
theorem jc_countW {β : Bool} {d : Nat} {h : jx_H} {κ : mS} (hl : 50 ≤ h.length) {T : Int → Int} {n p e : Int} {kk : Nat} (hE : cE κ T n e) (e9 : κ 9 0 = ((kk : Nat) : Int)) (hk : kk ≤ 12) : jx_r (jz β) jw_M (d + 1) 133 (0, [some (.ref 6), some (.int (Int32.ofInt (p)))], [], (cl_mk h κ)) (cl_mk h ((su κ 9 (0) (((kk : Nat) : Int) + 1))), .inl none) ∧ cE (su κ 9 (0) (((kk : Nat) : Int) + 1)) T n e := by
  have hE1 : cE (su κ 9 (0) (((kk : Nat) : Int) + 1)) T n e := cE_q (L := [9]) hE (mEq_su (mEq_refl _ _) (by decide)) (by decide)
  refine ⟨?_, hE1⟩
  by_cases h12 : kk = 12
  · refine jr_1 jm_133 (show jw_cd cd_133 0 = some (.aload_n 0) by decide +kernel) rfl ?_
    refine jr_1 jm_133 (show jw_cd cd_133 1 = some (.dup) by decide +kernel) rfl ?_
    refine jr_1 jm_133 (show jw_cd cd_133 2 = some (.getfield 15) by decide +kernel) (cg_9 (e := ((kk : Nat) : Int)) e9 (show jw_fld 7 15 4 = some 1 by decide +kernel)) ?_
    refine jr_1 jm_133 (show jw_cd cd_133 5 = some (.iconst 1) by decide +kernel) rfl ?_
    refine jr_1 jm_133 (show jw_cd cd_133 6 = some (.iadd) by decide +kernel) (mt_add (c := ((kk : Nat) : Int) + 1) rfl) ?_
    refine jr_1 jm_133 (show jw_cd cd_133 7 = some (.putfield 15) by decide +kernel) (cp_9 (x := ((kk : Nat) : Int) + 1) (show jw_fld 7 15 4 = some 1 by decide +kernel) (show jw_fm 7 4 1 = some false by decide +kernel)) ?_
    refine jr_1 jm_133 (show jw_cd cd_133 10 = some (.aload_n 0) by decide +kernel) rfl ?_
    refine jr_1 jm_133 (show jw_cd cd_133 11 = some (.getfield 15) by decide +kernel) (cg_9 (e := ((kk : Nat) : Int) + 1) (su_eq _ _ _ _) (show jw_fld 7 15 4 = some 1 by decide +kernel)) ?_
    refine jr_1 jm_133 (show jw_cd cd_133 14 = some (.bipush 12) by decide +kernel) (mt_bi (by decide)) ?_
    refine jr_1 jm_133 (show jw_cd cd_133 16 = some (.if_icmp .le 11) by decide +kernel) (mb_f (q := .le) (a := ((kk : Nat) : Int) + 1) (b := 12) (by show ¬ (((kk : Nat) : Int) + 1 ≤ 12); omega) ⟨by omega, by omega⟩ ⟨by omega, by omega⟩ (by decide)) ?_
    refine jr_1 jm_133 (show jw_cd cd_133 19 = some (.aload_n 0) by decide +kernel) rfl ?_
    refine jr_1 jm_133 (show jw_cd cd_133 20 = some (.getfield 9) by decide +kernel) (cgr_6_0 (show jw_fld 7 9 4 = some 0 by decide +kernel)) ?_
    refine jr_1 jm_133 (show jw_cd cd_133 23 = some (.iload_n 1) by decide +kernel) rfl ?_
    refine jr_c jm_133 (show jw_cd cd_133 24 = some (.invokevirtual 70) by decide +kernel) (ccv (n := 1) (m2 := 62) (ci := 1) (a := 1) (bs := [.int (Int32.ofInt (p))]) (r := []) (js_cls cl_c1 (by decide)) (show jw_find jw_cvT 7 70 = some (1, [(1, 62)]) by decide +kernel) (by decide) rfl rfl rfl) jm_62 ⟨Nat.le_of_ble_eq_true rfl, by decide⟩ (jc_wrongW hl hE1.2.1) ?_
    exact jr_v jm_133 (show jw_cd cd_133 27 = some (.return_) by decide +kernel) rfl
  · refine jr_1 jm_133 (show jw_cd cd_133 0 = some (.aload_n 0) by decide +kernel) rfl ?_
    refine jr_1 jm_133 (show jw_cd cd_133 1 = some (.dup) by decide +kernel) rfl ?_
    refine jr_1 jm_133 (show jw_cd cd_133 2 = some (.getfield 15) by decide +kernel) (cg_9 (e := ((kk : Nat) : Int)) e9 (show jw_fld 7 15 4 = some 1 by decide +kernel)) ?_
    refine jr_1 jm_133 (show jw_cd cd_133 5 = some (.iconst 1) by decide +kernel) rfl ?_
    refine jr_1 jm_133 (show jw_cd cd_133 6 = some (.iadd) by decide +kernel) (mt_add (c := ((kk : Nat) : Int) + 1) rfl) ?_
    refine jr_1 jm_133 (show jw_cd cd_133 7 = some (.putfield 15) by decide +kernel) (cp_9 (x := ((kk : Nat) : Int) + 1) (show jw_fld 7 15 4 = some 1 by decide +kernel) (show jw_fm 7 4 1 = some false by decide +kernel)) ?_
    refine jr_1 jm_133 (show jw_cd cd_133 10 = some (.aload_n 0) by decide +kernel) rfl ?_
    refine jr_1 jm_133 (show jw_cd cd_133 11 = some (.getfield 15) by decide +kernel) (cg_9 (e := ((kk : Nat) : Int) + 1) (su_eq _ _ _ _) (show jw_fld 7 15 4 = some 1 by decide +kernel)) ?_
    refine jr_1 jm_133 (show jw_cd cd_133 14 = some (.bipush 12) by decide +kernel) (mt_bi (by decide)) ?_
    refine jr_1 jm_133 (show jw_cd cd_133 16 = some (.if_icmp .le 11) by decide +kernel) (mb_t (q := .le) (a := ((kk : Nat) : Int) + 1) (b := 12) (t := 27) (by show ((kk : Nat) : Int) + 1 ≤ 12; omega) ⟨by omega, by omega⟩ ⟨by omega, by omega⟩ (by decide) (by decide)) ?_
    exact jr_v jm_133 (show jw_cd cd_133 27 = some (.return_) by decide +kernel) rfl
