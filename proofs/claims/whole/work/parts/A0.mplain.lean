/-! ===== the model reads plain values and names (printed by program: gen27.py) ===== -/
def sPlain (T : Int → Int) (n p : Int) : Int ⊕ (tI × Int) :=
  if tH T n p = 110 then .inr ((0, 0, [], []), p + 1) else if tH T n p = 102 then .inr ((1, 0, [], []), p + 1) else if tH T n p = 116 then .inr ((2, 0, [], []), p + 1)
  else if pN (tH T n p) = true then (match sNum T n p with
    | .inl e => .inl e
    | .inr (x, q) => .inr ((3, x, [], []), q))
  else if tH T n p = 39 then (match sText T n p with
    | .inl e => .inl e
    | .inr (s, q) => .inr ((4, 0, s, []), q))
  else .inl p
theorem jn_plain_ok {β : Bool} {d : Nat} {h : jx_H} {σ : mS} (hl : 49 ≤ h.length) {T : Int → Int} {n p : Int} (ht : tOK T n) (e1 : σ 1 = T) (e2 : σ 2 0 = n) (e28 : σ 28 0 = p) (h0 : 0 ≤ p) (hp : p ≤ n) (he0 : σ 29 0 = 0) {nn : Int} (e11 : σ 11 4 = nn) (hn0 : 0 ≤ nn) (hn1 : nn < 1000) {i : tI} {q : Int} (hs : sPlain T n p = .inr (i, q)) : ∃ τ0 : mS, jx_r (jz β) jw_M (d + 2 + 1 + 1) 222 (0, [some (.ref 15), none, none], [], ml_mk h σ) (ml_mk h (mNode τ0 4 i.1 i.2.1 (pk i.2.2.1)), .inl (some (.int (Int32.ofInt (170 * 4 + nn))))) ∧ mEq [28, 31, 32] σ τ0 ∧ τ0 28 0 = q := by
  have hh := tH_r (p := p) ht h0
  have he : mr (σ 29 0) := by rw [he0]; exact ⟨by decide, by decide⟩
  unfold sPlain at hs
  by_cases hc : tH T n p = 110
  · rw [if_pos hc] at hs
    obtain ⟨rfl, rfl⟩ : (0, 0, [], []) = i ∧ p + 1 = q := by cases hs; exact ⟨rfl, rfl⟩
    refine ⟨su σ 28 (0) (p + 1), ?_, mEq_su (mEq_refl _ _) (by decide), su_eq _ _ _ _⟩
    refine jr_1 jm_222 (show jw_cd cd_222 0 = some (.aload_n 0) by decide +kernel) rfl ?_
    refine jr_c jm_222 (show jw_cd cd_222 1 = some (.invokevirtual 151) by decide +kernel) (mc_v hl (n := 0) (m2 := 215) (bs := []) (r := []) (show jw_find jw_cvT 34 151 = some (0, [(16, 215)]) by decide +kernel) (by decide) rfl rfl rfl) jm_215 ⟨Nat.le_of_ble_eq_true rfl, by decide⟩ (jn_hereP hl ht (T := T) (n := n) (p := p) (rfl.trans e1) (rfl.trans e2) (e28.trans rfl) (by omega) (by omega)) ?_
    refine jr_1 jm_222 (F2 := (5, [some (.ref 15), some (.int (Int32.ofInt (tH T n (p)))), none], [], ml_mk h σ)) (show jw_cd cd_222 4 = some (.istore_n 1) by decide +kernel) rfl ?_
    refine jr_1 jm_222 (show jw_cd cd_222 5 = some (.iload_n 1) by decide +kernel) rfl ?_
    refine jr_1 jm_222 (show jw_cd cd_222 6 = some (.bipush 110) by decide +kernel) (mt_bi (by decide)) ?_
    refine jr_1 jm_222 (show jw_cd cd_222 8 = some (.if_icmp .eq 15) by decide +kernel) (mb_t (q := .eq) (a := tH T n (p)) (b := 110) (t := 23) hc ⟨by omega, by omega⟩ ⟨by omega, by omega⟩ (by decide) (by decide)) ?_
    refine jr_1 jm_222 (show jw_cd cd_222 23 = some (.aload_n 0) by decide +kernel) rfl ?_
    refine jr_1 jm_222 (show jw_cd cd_222 24 = some (.dup) by decide +kernel) rfl ?_
    refine jr_1 jm_222 (show jw_cd cd_222 25 = some (.getfield 145) by decide +kernel) (mg_i hl (e := p) e28 (show jw_fld 34 145 16 = some 28 by decide +kernel) (by decide) (by decide)) ?_
    refine jr_1 jm_222 (show jw_cd cd_222 28 = some (.iconst 1) by decide +kernel) rfl ?_
    refine jr_1 jm_222 (show jw_cd cd_222 29 = some (.iadd) by decide +kernel) (mt_add (c := p + 1) rfl) ?_
    refine jr_1 jm_222 (show jw_cd cd_222 30 = some (.putfield 145) by decide +kernel) (mp_i hl (x := p + 1) (show jw_fld 34 145 16 = some 28 by decide +kernel) (by decide) (by decide) (show jw_ft 16 28 = some .int by decide +kernel) (show jw_fm 34 16 28 = some false by decide +kernel)) ?_
    refine jr_1 jm_222 (show jw_cd cd_222 33 = some (.aload_n 0) by decide +kernel) rfl ?_
    refine jr_1 jm_222 (show jw_cd cd_222 34 = some (.iconst 4) by decide +kernel) rfl ?_
    refine jr_1 jm_222 (show jw_cd cd_222 35 = some (.iload_n 1) by decide +kernel) rfl ?_
    refine jr_1 jm_222 (show jw_cd cd_222 36 = some (.bipush 110) by decide +kernel) (mt_bi (by decide)) ?_
    refine jr_1 jm_222 (show jw_cd cd_222 38 = some (.if_icmp .ne 7) by decide +kernel) (mb_f (q := .ne) (a := tH T n (p)) (b := 110) (fun z => z hc) ⟨by omega, by omega⟩ ⟨by omega, by omega⟩ (by decide)) ?_
    refine jr_1 jm_222 (show jw_cd cd_222 41 = some (.iconst 0) by decide +kernel) rfl ?_
    refine jr_1 jm_222 (show jw_cd cd_222 42 = some (.goto 14) by decide +kernel) (ju_go (t := 56) (by decide)) ?_
    refine jr_1 jm_222 (show jw_cd cd_222 56 = some (.iconst 0) by decide +kernel) rfl ?_
    refine jr_1 jm_222 (F2 := (58, [some (.ref 15), some (.int (Int32.ofInt (tH T n (p)))), none], [.long (Int64.ofInt (0)), .int (Int32.ofInt (0)), .int (Int32.ofInt (0)), .int (Int32.ofInt (4)), .ref 15], ml_mk h (su σ 28 (0) (p + 1)))) (show jw_cd cd_222 57 = some (.lconst 0) by decide +kernel) rfl ?_
    refine jr_c jm_222 (show jw_cd cd_222 58 = some (.invokevirtual 110) by decide +kernel) (mc_v hl (n := 4) (m2 := 208) (bs := [.int (Int32.ofInt (4)), .int (Int32.ofInt (0)), .int (Int32.ofInt (0)), .long (Int64.ofInt (0))]) (r := []) (show jw_find jw_cvT 34 110 = some (4, [(16, 208)]) by decide +kernel) (by decide) rfl rfl rfl) jm_208 ⟨Nat.le_of_ble_eq_true rfl, by decide⟩ (jn_nodeM hl ⟨by decide, by decide⟩ (m := nn) ((su_nf (by decide)).trans e11) hn0 (by omega)) ?_
    exact jr_v jm_222 (show jw_cd cd_222 61 = some (.ireturn) by decide +kernel) rfl
  have h1 := hc
  rw [if_neg h1] at hs
  clear hc
  by_cases hc : tH T n p = 102
  · rw [if_pos hc] at hs
    obtain ⟨rfl, rfl⟩ : (1, 0, [], []) = i ∧ p + 1 = q := by cases hs; exact ⟨rfl, rfl⟩
    refine ⟨su σ 28 (0) (p + 1), ?_, mEq_su (mEq_refl _ _) (by decide), su_eq _ _ _ _⟩
    refine jr_1 jm_222 (show jw_cd cd_222 0 = some (.aload_n 0) by decide +kernel) rfl ?_
    refine jr_c jm_222 (show jw_cd cd_222 1 = some (.invokevirtual 151) by decide +kernel) (mc_v hl (n := 0) (m2 := 215) (bs := []) (r := []) (show jw_find jw_cvT 34 151 = some (0, [(16, 215)]) by decide +kernel) (by decide) rfl rfl rfl) jm_215 ⟨Nat.le_of_ble_eq_true rfl, by decide⟩ (jn_hereP hl ht (T := T) (n := n) (p := p) (rfl.trans e1) (rfl.trans e2) (e28.trans rfl) (by omega) (by omega)) ?_
    refine jr_1 jm_222 (F2 := (5, [some (.ref 15), some (.int (Int32.ofInt (tH T n (p)))), none], [], ml_mk h σ)) (show jw_cd cd_222 4 = some (.istore_n 1) by decide +kernel) rfl ?_
    refine jr_1 jm_222 (show jw_cd cd_222 5 = some (.iload_n 1) by decide +kernel) rfl ?_
    refine jr_1 jm_222 (show jw_cd cd_222 6 = some (.bipush 110) by decide +kernel) (mt_bi (by decide)) ?_
    refine jr_1 jm_222 (show jw_cd cd_222 8 = some (.if_icmp .eq 15) by decide +kernel) (mb_f (q := .eq) (a := tH T n (p)) (b := 110) h1 ⟨by omega, by omega⟩ ⟨by omega, by omega⟩ (by decide)) ?_
    refine jr_1 jm_222 (show jw_cd cd_222 11 = some (.iload_n 1) by decide +kernel) rfl ?_
    refine jr_1 jm_222 (show jw_cd cd_222 12 = some (.bipush 102) by decide +kernel) (mt_bi (by decide)) ?_
    refine jr_1 jm_222 (show jw_cd cd_222 14 = some (.if_icmp .eq 9) by decide +kernel) (mb_t (q := .eq) (a := tH T n (p)) (b := 102) (t := 23) hc ⟨by omega, by omega⟩ ⟨by omega, by omega⟩ (by decide) (by decide)) ?_
    refine jr_1 jm_222 (show jw_cd cd_222 23 = some (.aload_n 0) by decide +kernel) rfl ?_
    refine jr_1 jm_222 (show jw_cd cd_222 24 = some (.dup) by decide +kernel) rfl ?_
    refine jr_1 jm_222 (show jw_cd cd_222 25 = some (.getfield 145) by decide +kernel) (mg_i hl (e := p) e28 (show jw_fld 34 145 16 = some 28 by decide +kernel) (by decide) (by decide)) ?_
    refine jr_1 jm_222 (show jw_cd cd_222 28 = some (.iconst 1) by decide +kernel) rfl ?_
    refine jr_1 jm_222 (show jw_cd cd_222 29 = some (.iadd) by decide +kernel) (mt_add (c := p + 1) rfl) ?_
    refine jr_1 jm_222 (show jw_cd cd_222 30 = some (.putfield 145) by decide +kernel) (mp_i hl (x := p + 1) (show jw_fld 34 145 16 = some 28 by decide +kernel) (by decide) (by decide) (show jw_ft 16 28 = some .int by decide +kernel) (show jw_fm 34 16 28 = some false by decide +kernel)) ?_
    refine jr_1 jm_222 (show jw_cd cd_222 33 = some (.aload_n 0) by decide +kernel) rfl ?_
    refine jr_1 jm_222 (show jw_cd cd_222 34 = some (.iconst 4) by decide +kernel) rfl ?_
    refine jr_1 jm_222 (show jw_cd cd_222 35 = some (.iload_n 1) by decide +kernel) rfl ?_
    refine jr_1 jm_222 (show jw_cd cd_222 36 = some (.bipush 110) by decide +kernel) (mt_bi (by decide)) ?_
    refine jr_1 jm_222 (show jw_cd cd_222 38 = some (.if_icmp .ne 7) by decide +kernel) (mb_t (q := .ne) (a := tH T n (p)) (b := 110) (t := 45) h1 ⟨by omega, by omega⟩ ⟨by omega, by omega⟩ (by decide) (by decide)) ?_
    refine jr_1 jm_222 (show jw_cd cd_222 45 = some (.iload_n 1) by decide +kernel) rfl ?_
    refine jr_1 jm_222 (show jw_cd cd_222 46 = some (.bipush 102) by decide +kernel) (mt_bi (by decide)) ?_
    refine jr_1 jm_222 (show jw_cd cd_222 48 = some (.if_icmp .ne 7) by decide +kernel) (mb_f (q := .ne) (a := tH T n (p)) (b := 102) (fun z => z hc) ⟨by omega, by omega⟩ ⟨by omega, by omega⟩ (by decide)) ?_
    refine jr_1 jm_222 (show jw_cd cd_222 51 = some (.iconst 1) by decide +kernel) rfl ?_
    refine jr_1 jm_222 (show jw_cd cd_222 52 = some (.goto 4) by decide +kernel) (ju_go (t := 56) (by decide)) ?_
    refine jr_1 jm_222 (show jw_cd cd_222 56 = some (.iconst 0) by decide +kernel) rfl ?_
    refine jr_1 jm_222 (F2 := (58, [some (.ref 15), some (.int (Int32.ofInt (tH T n (p)))), none], [.long (Int64.ofInt (0)), .int (Int32.ofInt (0)), .int (Int32.ofInt (1)), .int (Int32.ofInt (4)), .ref 15], ml_mk h (su σ 28 (0) (p + 1)))) (show jw_cd cd_222 57 = some (.lconst 0) by decide +kernel) rfl ?_
    refine jr_c jm_222 (show jw_cd cd_222 58 = some (.invokevirtual 110) by decide +kernel) (mc_v hl (n := 4) (m2 := 208) (bs := [.int (Int32.ofInt (4)), .int (Int32.ofInt (1)), .int (Int32.ofInt (0)), .long (Int64.ofInt (0))]) (r := []) (show jw_find jw_cvT 34 110 = some (4, [(16, 208)]) by decide +kernel) (by decide) rfl rfl rfl) jm_208 ⟨Nat.le_of_ble_eq_true rfl, by decide⟩ (jn_nodeM hl ⟨by decide, by decide⟩ (m := nn) ((su_nf (by decide)).trans e11) hn0 (by omega)) ?_
    exact jr_v jm_222 (show jw_cd cd_222 61 = some (.ireturn) by decide +kernel) rfl
  have h2 := hc
  rw [if_neg h2] at hs
  clear hc
  by_cases hc : tH T n p = 116
  · rw [if_pos hc] at hs
    obtain ⟨rfl, rfl⟩ : (2, 0, [], []) = i ∧ p + 1 = q := by cases hs; exact ⟨rfl, rfl⟩
    refine ⟨su σ 28 (0) (p + 1), ?_, mEq_su (mEq_refl _ _) (by decide), su_eq _ _ _ _⟩
    refine jr_1 jm_222 (show jw_cd cd_222 0 = some (.aload_n 0) by decide +kernel) rfl ?_
    refine jr_c jm_222 (show jw_cd cd_222 1 = some (.invokevirtual 151) by decide +kernel) (mc_v hl (n := 0) (m2 := 215) (bs := []) (r := []) (show jw_find jw_cvT 34 151 = some (0, [(16, 215)]) by decide +kernel) (by decide) rfl rfl rfl) jm_215 ⟨Nat.le_of_ble_eq_true rfl, by decide⟩ (jn_hereP hl ht (T := T) (n := n) (p := p) (rfl.trans e1) (rfl.trans e2) (e28.trans rfl) (by omega) (by omega)) ?_
    refine jr_1 jm_222 (F2 := (5, [some (.ref 15), some (.int (Int32.ofInt (tH T n (p)))), none], [], ml_mk h σ)) (show jw_cd cd_222 4 = some (.istore_n 1) by decide +kernel) rfl ?_
    refine jr_1 jm_222 (show jw_cd cd_222 5 = some (.iload_n 1) by decide +kernel) rfl ?_
    refine jr_1 jm_222 (show jw_cd cd_222 6 = some (.bipush 110) by decide +kernel) (mt_bi (by decide)) ?_
    refine jr_1 jm_222 (show jw_cd cd_222 8 = some (.if_icmp .eq 15) by decide +kernel) (mb_f (q := .eq) (a := tH T n (p)) (b := 110) h1 ⟨by omega, by omega⟩ ⟨by omega, by omega⟩ (by decide)) ?_
    refine jr_1 jm_222 (show jw_cd cd_222 11 = some (.iload_n 1) by decide +kernel) rfl ?_
    refine jr_1 jm_222 (show jw_cd cd_222 12 = some (.bipush 102) by decide +kernel) (mt_bi (by decide)) ?_
    refine jr_1 jm_222 (show jw_cd cd_222 14 = some (.if_icmp .eq 9) by decide +kernel) (mb_f (q := .eq) (a := tH T n (p)) (b := 102) h2 ⟨by omega, by omega⟩ ⟨by omega, by omega⟩ (by decide)) ?_
    refine jr_1 jm_222 (show jw_cd cd_222 17 = some (.iload_n 1) by decide +kernel) rfl ?_
    refine jr_1 jm_222 (show jw_cd cd_222 18 = some (.bipush 116) by decide +kernel) (mt_bi (by decide)) ?_
    refine jr_1 jm_222 (show jw_cd cd_222 20 = some (.if_icmp .ne 42) by decide +kernel) (mb_f (q := .ne) (a := tH T n (p)) (b := 116) (fun z => z hc) ⟨by omega, by omega⟩ ⟨by omega, by omega⟩ (by decide)) ?_
    refine jr_1 jm_222 (show jw_cd cd_222 23 = some (.aload_n 0) by decide +kernel) rfl ?_
    refine jr_1 jm_222 (show jw_cd cd_222 24 = some (.dup) by decide +kernel) rfl ?_
    refine jr_1 jm_222 (show jw_cd cd_222 25 = some (.getfield 145) by decide +kernel) (mg_i hl (e := p) e28 (show jw_fld 34 145 16 = some 28 by decide +kernel) (by decide) (by decide)) ?_
    refine jr_1 jm_222 (show jw_cd cd_222 28 = some (.iconst 1) by decide +kernel) rfl ?_
    refine jr_1 jm_222 (show jw_cd cd_222 29 = some (.iadd) by decide +kernel) (mt_add (c := p + 1) rfl) ?_
    refine jr_1 jm_222 (show jw_cd cd_222 30 = some (.putfield 145) by decide +kernel) (mp_i hl (x := p + 1) (show jw_fld 34 145 16 = some 28 by decide +kernel) (by decide) (by decide) (show jw_ft 16 28 = some .int by decide +kernel) (show jw_fm 34 16 28 = some false by decide +kernel)) ?_
    refine jr_1 jm_222 (show jw_cd cd_222 33 = some (.aload_n 0) by decide +kernel) rfl ?_
    refine jr_1 jm_222 (show jw_cd cd_222 34 = some (.iconst 4) by decide +kernel) rfl ?_
    refine jr_1 jm_222 (show jw_cd cd_222 35 = some (.iload_n 1) by decide +kernel) rfl ?_
    refine jr_1 jm_222 (show jw_cd cd_222 36 = some (.bipush 110) by decide +kernel) (mt_bi (by decide)) ?_
    refine jr_1 jm_222 (show jw_cd cd_222 38 = some (.if_icmp .ne 7) by decide +kernel) (mb_t (q := .ne) (a := tH T n (p)) (b := 110) (t := 45) h1 ⟨by omega, by omega⟩ ⟨by omega, by omega⟩ (by decide) (by decide)) ?_
    refine jr_1 jm_222 (show jw_cd cd_222 45 = some (.iload_n 1) by decide +kernel) rfl ?_
    refine jr_1 jm_222 (show jw_cd cd_222 46 = some (.bipush 102) by decide +kernel) (mt_bi (by decide)) ?_
    refine jr_1 jm_222 (show jw_cd cd_222 48 = some (.if_icmp .ne 7) by decide +kernel) (mb_t (q := .ne) (a := tH T n (p)) (b := 102) (t := 55) h2 ⟨by omega, by omega⟩ ⟨by omega, by omega⟩ (by decide) (by decide)) ?_
    refine jr_1 jm_222 (show jw_cd cd_222 55 = some (.iconst 2) by decide +kernel) rfl ?_
    refine jr_1 jm_222 (show jw_cd cd_222 56 = some (.iconst 0) by decide +kernel) rfl ?_
    refine jr_1 jm_222 (F2 := (58, [some (.ref 15), some (.int (Int32.ofInt (tH T n (p)))), none], [.long (Int64.ofInt (0)), .int (Int32.ofInt (0)), .int (Int32.ofInt (2)), .int (Int32.ofInt (4)), .ref 15], ml_mk h (su σ 28 (0) (p + 1)))) (show jw_cd cd_222 57 = some (.lconst 0) by decide +kernel) rfl ?_
    refine jr_c jm_222 (show jw_cd cd_222 58 = some (.invokevirtual 110) by decide +kernel) (mc_v hl (n := 4) (m2 := 208) (bs := [.int (Int32.ofInt (4)), .int (Int32.ofInt (2)), .int (Int32.ofInt (0)), .long (Int64.ofInt (0))]) (r := []) (show jw_find jw_cvT 34 110 = some (4, [(16, 208)]) by decide +kernel) (by decide) rfl rfl rfl) jm_208 ⟨Nat.le_of_ble_eq_true rfl, by decide⟩ (jn_nodeM hl ⟨by decide, by decide⟩ (m := nn) ((su_nf (by decide)).trans e11) hn0 (by omega)) ?_
    exact jr_v jm_222 (show jw_cd cd_222 61 = some (.ireturn) by decide +kernel) rfl
  have h3 := hc
  rw [if_neg h3] at hs
  by_cases hN : pN (tH T n p) = true
  · rw [if_pos hN] at hs
    have r0 := jn_nb (β := β) (d := d + 2) hl ht e1 e2 e28 h0 hp
    rw [if_pos hN] at r0
    cases hx : sNum T n p with
    | inl e => rw [hx] at hs; cases hs
    | inr y =>
      obtain ⟨x, q2⟩ := y
      rw [hx] at hs
      obtain ⟨rfl, rfl⟩ : (3, x, [], []) = i ∧ q2 = q := by cases hs; exact ⟨rfl, rfl⟩
      refine ⟨su (su σ 32 0 x) 28 0 q2, ?_, mEq_su (mEq_su (mEq_refl _ _) (by decide)) (by decide), su_eq _ _ _ _⟩
      refine jr_1 jm_222 (show jw_cd cd_222 0 = some (.aload_n 0) by decide +kernel) rfl ?_
      refine jr_c jm_222 (show jw_cd cd_222 1 = some (.invokevirtual 151) by decide +kernel) (mc_v hl (n := 0) (m2 := 215) (bs := []) (r := []) (show jw_find jw_cvT 34 151 = some (0, [(16, 215)]) by decide +kernel) (by decide) rfl rfl rfl) jm_215 ⟨Nat.le_of_ble_eq_true rfl, by decide⟩ (jn_hereP hl ht (T := T) (n := n) (p := p) (rfl.trans e1) (rfl.trans e2) (e28.trans rfl) (by omega) (by omega)) ?_
      refine jr_1 jm_222 (F2 := (5, [some (.ref 15), some (.int (Int32.ofInt (tH T n (p)))), none], [], ml_mk h σ)) (show jw_cd cd_222 4 = some (.istore_n 1) by decide +kernel) rfl ?_
      refine jr_1 jm_222 (show jw_cd cd_222 5 = some (.iload_n 1) by decide +kernel) rfl ?_
      refine jr_1 jm_222 (show jw_cd cd_222 6 = some (.bipush 110) by decide +kernel) (mt_bi (by decide)) ?_
      refine jr_1 jm_222 (show jw_cd cd_222 8 = some (.if_icmp .eq 15) by decide +kernel) (mb_f (q := .eq) (a := tH T n (p)) (b := 110) h1 ⟨by omega, by omega⟩ ⟨by omega, by omega⟩ (by decide)) ?_
      refine jr_1 jm_222 (show jw_cd cd_222 11 = some (.iload_n 1) by decide +kernel) rfl ?_
      refine jr_1 jm_222 (show jw_cd cd_222 12 = some (.bipush 102) by decide +kernel) (mt_bi (by decide)) ?_
      refine jr_1 jm_222 (show jw_cd cd_222 14 = some (.if_icmp .eq 9) by decide +kernel) (mb_f (q := .eq) (a := tH T n (p)) (b := 102) h2 ⟨by omega, by omega⟩ ⟨by omega, by omega⟩ (by decide)) ?_
      refine jr_1 jm_222 (show jw_cd cd_222 17 = some (.iload_n 1) by decide +kernel) rfl ?_
      refine jr_1 jm_222 (show jw_cd cd_222 18 = some (.bipush 116) by decide +kernel) (mt_bi (by decide)) ?_
      refine jr_1 jm_222 (show jw_cd cd_222 20 = some (.if_icmp .ne 42) by decide +kernel) (mb_t (q := .ne) (a := tH T n (p)) (b := 116) (t := 62) h3 ⟨by omega, by omega⟩ ⟨by omega, by omega⟩ (by decide) (by decide)) ?_
      refine jr_1 jm_222 (show jw_cd cd_222 62 = some (.aload_n 0) by decide +kernel) rfl ?_
      refine jr_c jm_222 (show jw_cd cd_222 63 = some (.invokevirtual 182) by decide +kernel) (mc_v hl (n := 0) (m2 := 223) (bs := []) (r := []) (show jw_find jw_cvT 34 182 = some (0, [(16, 223)]) by decide +kernel) (by decide) rfl rfl rfl) jm_223 ⟨Nat.le_of_ble_eq_true rfl, by decide⟩ r0 ?_
      refine jr_1 jm_222 (show jw_cd cd_222 66 = some (.ifCond .eq 28) by decide +kernel) (mz_f (q := .eq) (a := 1) (by show ¬ (1 = 0); omega) ⟨by omega, by omega⟩ (by decide)) ?_
      refine jr_1 jm_222 (show jw_cd cd_222 69 = some (.aload_n 0) by decide +kernel) rfl ?_
      refine jr_c jm_222 (show jw_cd cd_222 70 = some (.invokevirtual 186) by decide +kernel) (mc_v hl (n := 0) (m2 := 225) (bs := []) (r := []) (show jw_find jw_cvT 34 186 = some (0, [(16, 225)]) by decide +kernel) (by decide) rfl rfl rfl) jm_225 ⟨Nat.le_of_ble_eq_true rfl, by decide⟩ (jn_readNumber_ok hl ht e1 e2 e28 h0 hp he hx) ?_
      refine jr_1 jm_222 (F2 := (74, [some (.ref 15), some (.int (Int32.ofInt (tH T n (p)))), some (.int (Int32.ofInt (1)))], [], ml_mk h (su (su σ 32 0 x) 28 0 q2))) (show jw_cd cd_222 73 = some (.istore_n 2) by decide +kernel) rfl ?_
      refine jr_1 jm_222 (show jw_cd cd_222 74 = some (.iload_n 2) by decide +kernel) rfl ?_
      refine jr_1 jm_222 (show jw_cd cd_222 75 = some (.ifCond .eq 17) by decide +kernel) (mz_f (q := .eq) (a := 1) (by show ¬ (1 = 0); omega) ⟨by omega, by omega⟩ (by decide)) ?_
      refine jr_1 jm_222 (show jw_cd cd_222 78 = some (.aload_n 0) by decide +kernel) rfl ?_
      refine jr_1 jm_222 (show jw_cd cd_222 79 = some (.iconst 4) by decide +kernel) rfl ?_
      refine jr_1 jm_222 (show jw_cd cd_222 80 = some (.iconst 3) by decide +kernel) rfl ?_
      refine jr_1 jm_222 (show jw_cd cd_222 81 = some (.aload_n 0) by decide +kernel) rfl ?_
      refine jr_1 jm_222 (show jw_cd cd_222 82 = some (.getfield 173) by decide +kernel) (mg_i hl (e := x) ((su_nf (by decide)).trans (su_eq _ _ _ _)) (show jw_fld 34 173 16 = some 32 by decide +kernel) (by decide) (by decide)) ?_
      refine jr_1 jm_222 (F2 := (86, [some (.ref 15), some (.int (Int32.ofInt (tH T n (p)))), some (.int (Int32.ofInt (1)))], [.long (Int64.ofInt (0)), .int (Int32.ofInt (x)), .int (Int32.ofInt (3)), .int (Int32.ofInt (4)), .ref 15], ml_mk h (su (su σ 32 0 x) 28 0 q2))) (show jw_cd cd_222 85 = some (.lconst 0) by decide +kernel) rfl ?_
      refine jr_c jm_222 (show jw_cd cd_222 86 = some (.invokevirtual 110) by decide +kernel) (mc_v hl (n := 4) (m2 := 208) (bs := [.int (Int32.ofInt (4)), .int (Int32.ofInt (3)), .int (Int32.ofInt (x)), .long (Int64.ofInt (0))]) (r := []) (show jw_find jw_cvT 34 110 = some (4, [(16, 208)]) by decide +kernel) (by decide) rfl rfl rfl) jm_208 ⟨Nat.le_of_ble_eq_true rfl, by decide⟩ (jn_nodeM hl ⟨by decide, by decide⟩ (m := nn) (((su_nf (by decide)).trans (su_nf (by decide))).trans e11) hn0 (by omega)) ?_
      refine jr_1 jm_222 (show jw_cd cd_222 89 = some (.goto 4) by decide +kernel) (ju_go (t := 93) (by decide)) ?_
      exact jr_v jm_222 (show jw_cd cd_222 93 = some (.ireturn) by decide +kernel) rfl
  · rw [if_neg hN] at hs
    have r0 := jn_nb (β := β) (d := d + 2) hl ht e1 e2 e28 h0 hp
    rw [if_neg hN] at r0
    by_cases h39 : tH T n p = 39
    · rw [if_pos h39] at hs
      have hlt : p < n := hh.2.2.2 (by omega)
      cases hx : sText T n p with
      | inl e => rw [hx] at hs; cases hs
      | inr y =>
        obtain ⟨s, q2⟩ := y
        rw [hx] at hs
        obtain ⟨rfl, rfl⟩ : (4, 0, s, []) = i ∧ q2 = q := by cases hs; exact ⟨rfl, rfl⟩
        refine ⟨su (su σ 31 0 (pk s)) 28 0 q2, ?_, mEq_su (mEq_su (mEq_refl _ _) (by decide)) (by decide), su_eq _ _ _ _⟩
        refine jr_1 jm_222 (show jw_cd cd_222 0 = some (.aload_n 0) by decide +kernel) rfl ?_
        refine jr_c jm_222 (show jw_cd cd_222 1 = some (.invokevirtual 151) by decide +kernel) (mc_v hl (n := 0) (m2 := 215) (bs := []) (r := []) (show jw_find jw_cvT 34 151 = some (0, [(16, 215)]) by decide +kernel) (by decide) rfl rfl rfl) jm_215 ⟨Nat.le_of_ble_eq_true rfl, by decide⟩ (jn_hereP hl ht (T := T) (n := n) (p := p) (rfl.trans e1) (rfl.trans e2) (e28.trans rfl) (by omega) (by omega)) ?_
        refine jr_1 jm_222 (F2 := (5, [some (.ref 15), some (.int (Int32.ofInt (tH T n (p)))), none], [], ml_mk h σ)) (show jw_cd cd_222 4 = some (.istore_n 1) by decide +kernel) rfl ?_
        refine jr_1 jm_222 (show jw_cd cd_222 5 = some (.iload_n 1) by decide +kernel) rfl ?_
        refine jr_1 jm_222 (show jw_cd cd_222 6 = some (.bipush 110) by decide +kernel) (mt_bi (by decide)) ?_
        refine jr_1 jm_222 (show jw_cd cd_222 8 = some (.if_icmp .eq 15) by decide +kernel) (mb_f (q := .eq) (a := tH T n (p)) (b := 110) h1 ⟨by omega, by omega⟩ ⟨by omega, by omega⟩ (by decide)) ?_
        refine jr_1 jm_222 (show jw_cd cd_222 11 = some (.iload_n 1) by decide +kernel) rfl ?_
        refine jr_1 jm_222 (show jw_cd cd_222 12 = some (.bipush 102) by decide +kernel) (mt_bi (by decide)) ?_
        refine jr_1 jm_222 (show jw_cd cd_222 14 = some (.if_icmp .eq 9) by decide +kernel) (mb_f (q := .eq) (a := tH T n (p)) (b := 102) h2 ⟨by omega, by omega⟩ ⟨by omega, by omega⟩ (by decide)) ?_
        refine jr_1 jm_222 (show jw_cd cd_222 17 = some (.iload_n 1) by decide +kernel) rfl ?_
        refine jr_1 jm_222 (show jw_cd cd_222 18 = some (.bipush 116) by decide +kernel) (mt_bi (by decide)) ?_
        refine jr_1 jm_222 (show jw_cd cd_222 20 = some (.if_icmp .ne 42) by decide +kernel) (mb_t (q := .ne) (a := tH T n (p)) (b := 116) (t := 62) h3 ⟨by omega, by omega⟩ ⟨by omega, by omega⟩ (by decide) (by decide)) ?_
        refine jr_1 jm_222 (show jw_cd cd_222 62 = some (.aload_n 0) by decide +kernel) rfl ?_
        refine jr_c jm_222 (show jw_cd cd_222 63 = some (.invokevirtual 182) by decide +kernel) (mc_v hl (n := 0) (m2 := 223) (bs := []) (r := []) (show jw_find jw_cvT 34 182 = some (0, [(16, 223)]) by decide +kernel) (by decide) rfl rfl rfl) jm_223 ⟨Nat.le_of_ble_eq_true rfl, by decide⟩ r0 ?_
        refine jr_1 jm_222 (show jw_cd cd_222 66 = some (.ifCond .eq 28) by decide +kernel) (mz_t (q := .eq) (a := 0) (t := 94) (by show 0 = 0; omega) ⟨by omega, by omega⟩ (by decide) (by decide)) ?_
        refine jr_1 jm_222 (show jw_cd cd_222 94 = some (.iload_n 1) by decide +kernel) rfl ?_
        refine jr_1 jm_222 (show jw_cd cd_222 95 = some (.bipush 39) by decide +kernel) (mt_bi (by decide)) ?_
        refine jr_1 jm_222 (show jw_cd cd_222 97 = some (.if_icmp .ne 28) by decide +kernel) (mb_f (q := .ne) (a := tH T n (p)) (b := 39) (fun z => z h39) ⟨by omega, by omega⟩ ⟨by omega, by omega⟩ (by decide)) ?_
        refine jr_1 jm_222 (show jw_cd cd_222 100 = some (.aload_n 0) by decide +kernel) rfl ?_
        refine jr_c jm_222 (show jw_cd cd_222 101 = some (.invokevirtual 189) by decide +kernel) (mc_v hl (n := 0) (m2 := 227) (bs := []) (r := []) (show jw_find jw_cvT 34 189 = some (0, [(16, 227)]) by decide +kernel) (by decide) rfl rfl rfl) jm_227 ⟨Nat.le_of_ble_eq_true rfl, by decide⟩ (jn_readText_ok hl ht e1 e2 e28 h0 hlt he hx) ?_
        refine jr_1 jm_222 (F2 := (105, [some (.ref 15), some (.int (Int32.ofInt (tH T n (p)))), some (.int (Int32.ofInt (1)))], [], ml_mk h (su (su σ 31 0 (pk s)) 28 0 q2))) (show jw_cd cd_222 104 = some (.istore_n 2) by decide +kernel) rfl ?_
        refine jr_1 jm_222 (show jw_cd cd_222 105 = some (.iload_n 2) by decide +kernel) rfl ?_
        refine jr_1 jm_222 (show jw_cd cd_222 106 = some (.ifCond .eq 17) by decide +kernel) (mz_f (q := .eq) (a := 1) (by show ¬ (1 = 0); omega) ⟨by omega, by omega⟩ (by decide)) ?_
        refine jr_1 jm_222 (show jw_cd cd_222 109 = some (.aload_n 0) by decide +kernel) rfl ?_
        refine jr_1 jm_222 (show jw_cd cd_222 110 = some (.iconst 4) by decide +kernel) rfl ?_
        refine jr_1 jm_222 (show jw_cd cd_222 111 = some (.iconst 4) by decide +kernel) rfl ?_
        refine jr_1 jm_222 (show jw_cd cd_222 112 = some (.iconst 0) by decide +kernel) rfl ?_
        refine jr_1 jm_222 (show jw_cd cd_222 113 = some (.aload_n 0) by decide +kernel) rfl ?_
        refine jr_1 jm_222 (show jw_cd cd_222 114 = some (.getfield 158) by decide +kernel) (mg_j hl (e := pk s) ((su_nf (by decide)).trans (su_eq _ _ _ _)) (show jw_fld 34 158 16 = some 31 by decide +kernel) (by decide) (by decide)) ?_
        refine jr_c jm_222 (show jw_cd cd_222 117 = some (.invokevirtual 110) by decide +kernel) (mc_v hl (n := 4) (m2 := 208) (bs := [.int (Int32.ofInt (4)), .int (Int32.ofInt (4)), .int (Int32.ofInt (0)), .long (Int64.ofInt (pk s))]) (r := []) (show jw_find jw_cvT 34 110 = some (4, [(16, 208)]) by decide +kernel) (by decide) rfl rfl rfl) jm_208 ⟨Nat.le_of_ble_eq_true rfl, by decide⟩ (jn_nodeM hl ⟨by decide, by decide⟩ (m := nn) (((su_nf (by decide)).trans (su_nf (by decide))).trans e11) hn0 (by omega)) ?_
        refine jr_1 jm_222 (show jw_cd cd_222 120 = some (.goto 4) by decide +kernel) (ju_go (t := 124) (by decide)) ?_
        exact jr_v jm_222 (show jw_cd cd_222 124 = some (.ireturn) by decide +kernel) rfl
    · rw [if_neg h39] at hs
      cases hs
theorem jn_plain_er {β : Bool} {d : Nat} {h : jx_H} {σ : mS} (hl : 49 ≤ h.length) {T : Int → Int} {n p : Int} (ht : tOK T n) (e1 : σ 1 = T) (e2 : σ 2 0 = n) (e28 : σ 28 0 = p) (h0 : 0 ≤ p) (hp : p ≤ n) (he0 : σ 29 0 = 0) {nn : Int} (e11 : σ 11 4 = nn) (hn0 : 0 ≤ nn) (hn1 : nn < 1000) {w : Int} (hs : sPlain T n p = .inl w) : ∃ τ : mS, jx_r (jz β) jw_M (d + 2 + 1 + 1) 222 (0, [some (.ref 15), none, none], [], ml_mk h σ) (ml_mk h (τ), .inl (some (.int (Int32.ofInt (-1))))) ∧ τ 29 0 = -1 - w ∧ mEq [28, 29, 31, 32] σ τ := by
  have hh := tH_r (p := p) ht h0
  have he : mr (σ 29 0) := by rw [he0]; exact ⟨by decide, by decide⟩
  unfold sPlain at hs
  by_cases h1 : tH T n p = 110
  · rw [if_pos h1] at hs
    cases hs
  rw [if_neg h1] at hs
  by_cases h2 : tH T n p = 102
  · rw [if_pos h2] at hs
    cases hs
  rw [if_neg h2] at hs
  by_cases h3 : tH T n p = 116
  · rw [if_pos h3] at hs
    cases hs
  rw [if_neg h3] at hs
  by_cases hN : pN (tH T n p) = true
  · rw [if_pos hN] at hs
    have r0 := jn_nb (β := β) (d := d + 2) hl ht e1 e2 e28 h0 hp
    rw [if_pos hN] at r0
    cases hx : sNum T n p with
    | inr y => rw [hx] at hs; cases hs
    | inl e =>
      rw [hx] at hs
      cases hs
      obtain ⟨τ, t1, t2, t3⟩ := jn_readNumber_er (β := β) (d := d + 1) hl ht e1 e2 e28 h0 hp he he0 hx
      refine ⟨τ, ?_, t2, mEq_sub t3 (by decide)⟩
      refine jr_1 jm_222 (show jw_cd cd_222 0 = some (.aload_n 0) by decide +kernel) rfl ?_
      refine jr_c jm_222 (show jw_cd cd_222 1 = some (.invokevirtual 151) by decide +kernel) (mc_v hl (n := 0) (m2 := 215) (bs := []) (r := []) (show jw_find jw_cvT 34 151 = some (0, [(16, 215)]) by decide +kernel) (by decide) rfl rfl rfl) jm_215 ⟨Nat.le_of_ble_eq_true rfl, by decide⟩ (jn_hereP hl ht (T := T) (n := n) (p := p) (rfl.trans e1) (rfl.trans e2) (e28.trans rfl) (by omega) (by omega)) ?_
      refine jr_1 jm_222 (F2 := (5, [some (.ref 15), some (.int (Int32.ofInt (tH T n (p)))), none], [], ml_mk h σ)) (show jw_cd cd_222 4 = some (.istore_n 1) by decide +kernel) rfl ?_
      refine jr_1 jm_222 (show jw_cd cd_222 5 = some (.iload_n 1) by decide +kernel) rfl ?_
      refine jr_1 jm_222 (show jw_cd cd_222 6 = some (.bipush 110) by decide +kernel) (mt_bi (by decide)) ?_
      refine jr_1 jm_222 (show jw_cd cd_222 8 = some (.if_icmp .eq 15) by decide +kernel) (mb_f (q := .eq) (a := tH T n (p)) (b := 110) h1 ⟨by omega, by omega⟩ ⟨by omega, by omega⟩ (by decide)) ?_
      refine jr_1 jm_222 (show jw_cd cd_222 11 = some (.iload_n 1) by decide +kernel) rfl ?_
      refine jr_1 jm_222 (show jw_cd cd_222 12 = some (.bipush 102) by decide +kernel) (mt_bi (by decide)) ?_
      refine jr_1 jm_222 (show jw_cd cd_222 14 = some (.if_icmp .eq 9) by decide +kernel) (mb_f (q := .eq) (a := tH T n (p)) (b := 102) h2 ⟨by omega, by omega⟩ ⟨by omega, by omega⟩ (by decide)) ?_
      refine jr_1 jm_222 (show jw_cd cd_222 17 = some (.iload_n 1) by decide +kernel) rfl ?_
      refine jr_1 jm_222 (show jw_cd cd_222 18 = some (.bipush 116) by decide +kernel) (mt_bi (by decide)) ?_
      refine jr_1 jm_222 (show jw_cd cd_222 20 = some (.if_icmp .ne 42) by decide +kernel) (mb_t (q := .ne) (a := tH T n (p)) (b := 116) (t := 62) h3 ⟨by omega, by omega⟩ ⟨by omega, by omega⟩ (by decide) (by decide)) ?_
      refine jr_1 jm_222 (show jw_cd cd_222 62 = some (.aload_n 0) by decide +kernel) rfl ?_
      refine jr_c jm_222 (show jw_cd cd_222 63 = some (.invokevirtual 182) by decide +kernel) (mc_v hl (n := 0) (m2 := 223) (bs := []) (r := []) (show jw_find jw_cvT 34 182 = some (0, [(16, 223)]) by decide +kernel) (by decide) rfl rfl rfl) jm_223 ⟨Nat.le_of_ble_eq_true rfl, by decide⟩ r0 ?_
      refine jr_1 jm_222 (show jw_cd cd_222 66 = some (.ifCond .eq 28) by decide +kernel) (mz_f (q := .eq) (a := 1) (by show ¬ (1 = 0); omega) ⟨by omega, by omega⟩ (by decide)) ?_
      refine jr_1 jm_222 (show jw_cd cd_222 69 = some (.aload_n 0) by decide +kernel) rfl ?_
      refine jr_c jm_222 (show jw_cd cd_222 70 = some (.invokevirtual 186) by decide +kernel) (mc_v hl (n := 0) (m2 := 225) (bs := []) (r := []) (show jw_find jw_cvT 34 186 = some (0, [(16, 225)]) by decide +kernel) (by decide) rfl rfl rfl) jm_225 ⟨Nat.le_of_ble_eq_true rfl, by decide⟩ t1 ?_
      refine jr_1 jm_222 (F2 := (74, [some (.ref 15), some (.int (Int32.ofInt (tH T n (p)))), some (.int (Int32.ofInt (0)))], [], ml_mk h τ)) (show jw_cd cd_222 73 = some (.istore_n 2) by decide +kernel) rfl ?_
      refine jr_1 jm_222 (show jw_cd cd_222 74 = some (.iload_n 2) by decide +kernel) rfl ?_
      refine jr_1 jm_222 (show jw_cd cd_222 75 = some (.ifCond .eq 17) by decide +kernel) (mz_t (q := .eq) (a := 0) (t := 92) (by show 0 = 0; omega) ⟨by omega, by omega⟩ (by decide) (by decide)) ?_
      refine jr_1 jm_222 (show jw_cd cd_222 92 = some (.iconst (-1)) by decide +kernel) rfl ?_
      exact jr_v jm_222 (show jw_cd cd_222 93 = some (.ireturn) by decide +kernel) rfl
  · rw [if_neg hN] at hs
    have r0 := jn_nb (β := β) (d := d + 2) hl ht e1 e2 e28 h0 hp
    rw [if_neg hN] at r0
    by_cases h39 : tH T n p = 39
    · rw [if_pos h39] at hs
      have hlt : p < n := hh.2.2.2 (by omega)
      cases hx : sText T n p with
      | inr y => rw [hx] at hs; cases hs
      | inl e =>
        rw [hx] at hs
        cases hs
        obtain ⟨τ, t1, t2, t3⟩ := jn_readText_er (β := β) (d := d) hl ht e1 e2 e28 h0 hlt he he0 hx
        refine ⟨τ, ?_, t2, mEq_sub t3 (by decide)⟩
        refine jr_1 jm_222 (show jw_cd cd_222 0 = some (.aload_n 0) by decide +kernel) rfl ?_
        refine jr_c jm_222 (show jw_cd cd_222 1 = some (.invokevirtual 151) by decide +kernel) (mc_v hl (n := 0) (m2 := 215) (bs := []) (r := []) (show jw_find jw_cvT 34 151 = some (0, [(16, 215)]) by decide +kernel) (by decide) rfl rfl rfl) jm_215 ⟨Nat.le_of_ble_eq_true rfl, by decide⟩ (jn_hereP hl ht (T := T) (n := n) (p := p) (rfl.trans e1) (rfl.trans e2) (e28.trans rfl) (by omega) (by omega)) ?_
        refine jr_1 jm_222 (F2 := (5, [some (.ref 15), some (.int (Int32.ofInt (tH T n (p)))), none], [], ml_mk h σ)) (show jw_cd cd_222 4 = some (.istore_n 1) by decide +kernel) rfl ?_
        refine jr_1 jm_222 (show jw_cd cd_222 5 = some (.iload_n 1) by decide +kernel) rfl ?_
        refine jr_1 jm_222 (show jw_cd cd_222 6 = some (.bipush 110) by decide +kernel) (mt_bi (by decide)) ?_
        refine jr_1 jm_222 (show jw_cd cd_222 8 = some (.if_icmp .eq 15) by decide +kernel) (mb_f (q := .eq) (a := tH T n (p)) (b := 110) h1 ⟨by omega, by omega⟩ ⟨by omega, by omega⟩ (by decide)) ?_
        refine jr_1 jm_222 (show jw_cd cd_222 11 = some (.iload_n 1) by decide +kernel) rfl ?_
        refine jr_1 jm_222 (show jw_cd cd_222 12 = some (.bipush 102) by decide +kernel) (mt_bi (by decide)) ?_
        refine jr_1 jm_222 (show jw_cd cd_222 14 = some (.if_icmp .eq 9) by decide +kernel) (mb_f (q := .eq) (a := tH T n (p)) (b := 102) h2 ⟨by omega, by omega⟩ ⟨by omega, by omega⟩ (by decide)) ?_
        refine jr_1 jm_222 (show jw_cd cd_222 17 = some (.iload_n 1) by decide +kernel) rfl ?_
        refine jr_1 jm_222 (show jw_cd cd_222 18 = some (.bipush 116) by decide +kernel) (mt_bi (by decide)) ?_
        refine jr_1 jm_222 (show jw_cd cd_222 20 = some (.if_icmp .ne 42) by decide +kernel) (mb_t (q := .ne) (a := tH T n (p)) (b := 116) (t := 62) h3 ⟨by omega, by omega⟩ ⟨by omega, by omega⟩ (by decide) (by decide)) ?_
        refine jr_1 jm_222 (show jw_cd cd_222 62 = some (.aload_n 0) by decide +kernel) rfl ?_
        refine jr_c jm_222 (show jw_cd cd_222 63 = some (.invokevirtual 182) by decide +kernel) (mc_v hl (n := 0) (m2 := 223) (bs := []) (r := []) (show jw_find jw_cvT 34 182 = some (0, [(16, 223)]) by decide +kernel) (by decide) rfl rfl rfl) jm_223 ⟨Nat.le_of_ble_eq_true rfl, by decide⟩ r0 ?_
        refine jr_1 jm_222 (show jw_cd cd_222 66 = some (.ifCond .eq 28) by decide +kernel) (mz_t (q := .eq) (a := 0) (t := 94) (by show 0 = 0; omega) ⟨by omega, by omega⟩ (by decide) (by decide)) ?_
        refine jr_1 jm_222 (show jw_cd cd_222 94 = some (.iload_n 1) by decide +kernel) rfl ?_
        refine jr_1 jm_222 (show jw_cd cd_222 95 = some (.bipush 39) by decide +kernel) (mt_bi (by decide)) ?_
        refine jr_1 jm_222 (show jw_cd cd_222 97 = some (.if_icmp .ne 28) by decide +kernel) (mb_f (q := .ne) (a := tH T n (p)) (b := 39) (fun z => z h39) ⟨by omega, by omega⟩ ⟨by omega, by omega⟩ (by decide)) ?_
        refine jr_1 jm_222 (show jw_cd cd_222 100 = some (.aload_n 0) by decide +kernel) rfl ?_
        refine jr_c jm_222 (show jw_cd cd_222 101 = some (.invokevirtual 189) by decide +kernel) (mc_v hl (n := 0) (m2 := 227) (bs := []) (r := []) (show jw_find jw_cvT 34 189 = some (0, [(16, 227)]) by decide +kernel) (by decide) rfl rfl rfl) jm_227 ⟨Nat.le_of_ble_eq_true rfl, by decide⟩ t1 ?_
        refine jr_1 jm_222 (F2 := (105, [some (.ref 15), some (.int (Int32.ofInt (tH T n (p)))), some (.int (Int32.ofInt (0)))], [], ml_mk h τ)) (show jw_cd cd_222 104 = some (.istore_n 2) by decide +kernel) rfl ?_
        refine jr_1 jm_222 (show jw_cd cd_222 105 = some (.iload_n 2) by decide +kernel) rfl ?_
        refine jr_1 jm_222 (show jw_cd cd_222 106 = some (.ifCond .eq 17) by decide +kernel) (mz_t (q := .eq) (a := 0) (t := 123) (by show 0 = 0; omega) ⟨by omega, by omega⟩ (by decide) (by decide)) ?_
        refine jr_1 jm_222 (show jw_cd cd_222 123 = some (.iconst (-1)) by decide +kernel) rfl ?_
        exact jr_v jm_222 (show jw_cd cd_222 124 = some (.ireturn) by decide +kernel) rfl
    · rw [if_neg h39] at hs
      cases hs
      refine ⟨mWrong σ p, ?_, mWrong_0 he0, mEq_wrong (mEq_refl _ _) (by decide)⟩
      refine jr_1 jm_222 (show jw_cd cd_222 0 = some (.aload_n 0) by decide +kernel) rfl ?_
      refine jr_c jm_222 (show jw_cd cd_222 1 = some (.invokevirtual 151) by decide +kernel) (mc_v hl (n := 0) (m2 := 215) (bs := []) (r := []) (show jw_find jw_cvT 34 151 = some (0, [(16, 215)]) by decide +kernel) (by decide) rfl rfl rfl) jm_215 ⟨Nat.le_of_ble_eq_true rfl, by decide⟩ (jn_hereP hl ht (T := T) (n := n) (p := p) (rfl.trans e1) (rfl.trans e2) (e28.trans rfl) (by omega) (by omega)) ?_
      refine jr_1 jm_222 (F2 := (5, [some (.ref 15), some (.int (Int32.ofInt (tH T n (p)))), none], [], ml_mk h σ)) (show jw_cd cd_222 4 = some (.istore_n 1) by decide +kernel) rfl ?_
      refine jr_1 jm_222 (show jw_cd cd_222 5 = some (.iload_n 1) by decide +kernel) rfl ?_
      refine jr_1 jm_222 (show jw_cd cd_222 6 = some (.bipush 110) by decide +kernel) (mt_bi (by decide)) ?_
      refine jr_1 jm_222 (show jw_cd cd_222 8 = some (.if_icmp .eq 15) by decide +kernel) (mb_f (q := .eq) (a := tH T n (p)) (b := 110) h1 ⟨by omega, by omega⟩ ⟨by omega, by omega⟩ (by decide)) ?_
      refine jr_1 jm_222 (show jw_cd cd_222 11 = some (.iload_n 1) by decide +kernel) rfl ?_
      refine jr_1 jm_222 (show jw_cd cd_222 12 = some (.bipush 102) by decide +kernel) (mt_bi (by decide)) ?_
      refine jr_1 jm_222 (show jw_cd cd_222 14 = some (.if_icmp .eq 9) by decide +kernel) (mb_f (q := .eq) (a := tH T n (p)) (b := 102) h2 ⟨by omega, by omega⟩ ⟨by omega, by omega⟩ (by decide)) ?_
      refine jr_1 jm_222 (show jw_cd cd_222 17 = some (.iload_n 1) by decide +kernel) rfl ?_
      refine jr_1 jm_222 (show jw_cd cd_222 18 = some (.bipush 116) by decide +kernel) (mt_bi (by decide)) ?_
      refine jr_1 jm_222 (show jw_cd cd_222 20 = some (.if_icmp .ne 42) by decide +kernel) (mb_t (q := .ne) (a := tH T n (p)) (b := 116) (t := 62) h3 ⟨by omega, by omega⟩ ⟨by omega, by omega⟩ (by decide) (by decide)) ?_
      refine jr_1 jm_222 (show jw_cd cd_222 62 = some (.aload_n 0) by decide +kernel) rfl ?_
      refine jr_c jm_222 (show jw_cd cd_222 63 = some (.invokevirtual 182) by decide +kernel) (mc_v hl (n := 0) (m2 := 223) (bs := []) (r := []) (show jw_find jw_cvT 34 182 = some (0, [(16, 223)]) by decide +kernel) (by decide) rfl rfl rfl) jm_223 ⟨Nat.le_of_ble_eq_true rfl, by decide⟩ r0 ?_
      refine jr_1 jm_222 (show jw_cd cd_222 66 = some (.ifCond .eq 28) by decide +kernel) (mz_t (q := .eq) (a := 0) (t := 94) (by show 0 = 0; omega) ⟨by omega, by omega⟩ (by decide) (by decide)) ?_
      refine jr_1 jm_222 (show jw_cd cd_222 94 = some (.iload_n 1) by decide +kernel) rfl ?_
      refine jr_1 jm_222 (show jw_cd cd_222 95 = some (.bipush 39) by decide +kernel) (mt_bi (by decide)) ?_
      refine jr_1 jm_222 (show jw_cd cd_222 97 = some (.if_icmp .ne 28) by decide +kernel) (mb_t (q := .ne) (a := tH T n (p)) (b := 39) (t := 125) h39 ⟨by omega, by omega⟩ ⟨by omega, by omega⟩ (by decide) (by decide)) ?_
      refine jr_1 jm_222 (show jw_cd cd_222 125 = some (.aload_n 0) by decide +kernel) rfl ?_
      refine jr_1 jm_222 (show jw_cd cd_222 126 = some (.aload_n 0) by decide +kernel) rfl ?_
      refine jr_1 jm_222 (show jw_cd cd_222 127 = some (.getfield 145) by decide +kernel) (mg_i hl (e := p) e28 (show jw_fld 34 145 16 = some 28 by decide +kernel) (by decide) (by decide)) ?_
      refine jr_c jm_222 (show jw_cd cd_222 130 = some (.invokevirtual 155) by decide +kernel) (mc_v hl (n := 1) (m2 := 216) (bs := [.int (Int32.ofInt (p))]) (r := []) (show jw_find jw_cvT 34 155 = some (1, [(16, 216)]) by decide +kernel) (by decide) rfl rfl rfl) jm_216 ⟨Nat.le_of_ble_eq_true rfl, by decide⟩ (jn_wrong hl he) ?_
      refine jr_1 jm_222 (show jw_cd cd_222 133 = some (.iconst (-1)) by decide +kernel) rfl ?_
      exact jr_v jm_222 (show jw_cd cd_222 134 = some (.ireturn) by decide +kernel) rfl
