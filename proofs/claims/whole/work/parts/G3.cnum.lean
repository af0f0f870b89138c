/-! ===== the class reads a number (printed by program: gen75.py) ===== -/
theorem spn_cut {P : Int → Bool} {T : Int → Int} {n : Int} : ∀ (k : Nat) (p : Int), ((spn P T n (k + 1) p).length ≤ k → spn P T n k p = spn P T n (k + 1) p ∧ ¬ P (tH T n (p + (spn P T n k p).length)) = true) ∧ ((spn P T n (k + 1) p).length = k + 1 → (spn P T n k p).length = k ∧ P (tH T n (p + k)) = true)
  | 0, p => by
    by_cases h : P (tH T n p) = true
    · rw [spn_t h]
      refine ⟨fun z => ?_, fun _ => ⟨rfl, by simpa using h⟩⟩
      have z : (spn P T n 0 (p + 1)).length + 1 ≤ 0 := z
      omega
    · rw [spn_f h]
      refine ⟨fun _ => ⟨rfl, ?_⟩, fun z => ?_⟩
      · show ¬ P (tH T n (p + ((0 : Nat) : Int))) = true
        rw [show p + ((0 : Nat) : Int) = p by omega]
        exact h
      · have z : (0 : Nat) = 0 + 1 := z
        omega
  | k + 1, p => by
    obtain ⟨i1, i2⟩ := spn_cut (P := P) (T := T) (n := n) k (p + 1)
    by_cases h : P (tH T n p) = true
    · rw [spn_t (k := k + 1) h, spn_t (k := k) h]
      refine ⟨fun z => ?_, fun z => ?_⟩
      · have z : (spn P T n (k + 1) (p + 1)).length + 1 ≤ k + 1 := z
        obtain ⟨j1, j2⟩ := i1 (by omega)
        refine ⟨by rw [j1], ?_⟩
        rw [show p + (((tH T n p :: spn P T n k (p + 1)).length : Nat) : Int) = p + 1 + ((spn P T n k (p + 1)).length : Int) by rw [List.length_cons]; omega]
        exact j2
      · have z : (spn P T n (k + 1) (p + 1)).length + 1 = k + 1 + 1 := z
        obtain ⟨j1, j2⟩ := i2 (by omega)
        refine ⟨by rw [List.length_cons, j1], ?_⟩
        rw [show p + ((k + 1 : Nat) : Int) = p + 1 + (k : Int) by omega]
        exact j2
    · rw [spn_f (k := k + 1) h, spn_f (k := k) h]
      refine ⟨fun _ => ⟨rfl, ?_⟩, fun z => ?_⟩
      · show ¬ P (tH T n (p + ((0 : Nat) : Int))) = true
        rw [show p + ((0 : Nat) : Int) = p by omega]
        exact h
      · have z : (0 : Nat) = k + 1 + 1 := z
        omega
theorem tC_is {T : Int → Int} {n p : Int} (ht : tOK T n) (h0 : 0 ≤ p) {a b : Int} (ha : 1 ≤ a) : (a ≤ tC T n p ∧ tC T n p ≤ b) ↔ (a ≤ tH T n p ∧ tH T n p ≤ b) := by
  obtain ⟨h1, h2, -, -⟩ := tC_H (p := p) ht h0
  by_cases h : tH T n p = -1
  · have := h1 h
    omega
  · have := (h2 h).1
    omega
theorem tC_eq {T : Int → Int} {n p : Int} (ht : tOK T n) (h0 : 0 ≤ p) {c : Int} (hc : 1 ≤ c) : tC T n p = c ↔ tH T n p = c := by
  obtain ⟨h1, h2, -, -⟩ := tC_H (p := p) ht h0
  by_cases h : tH T n p = -1
  · have := h1 h
    omega
  · have := (h2 h).1
    omega
/-- something is wrong at e -/
def cE (κ : mS) (T : Int → Int) (n e : Int) : Prop := cT κ T n ∧ cW κ e ∧ 0 ≤ κ 4 0 ∧ κ 4 0 ≤ n
theorem cT_q {κ κ' : mS} {T : Int → Int} {n : Int} (h : cT κ T n) (h3 : κ' 3 = κ 3) (h6 : κ' 6 = κ 6) : cT κ' T n := ⟨by rw [h3]; exact h.1, fun i i0 i1 => by rw [h6]; exact h.2.1 i i0 i1, h.2.2⟩
theorem cP_mv {κ : mS} {T : Int → Int} {n p q : Int} (h : cP κ T n p) (h0 : 0 ≤ q) (h1 : q ≤ n) : cP (su κ 4 0 q) T n q := ⟨cT_q h.1 (su_row (by decide)) (su_row (by decide)), su_eq _ _ _ _, (su_nf (by decide)).trans h.2.2.1, h0, h1⟩
theorem cP_w {κ : mS} {T : Int → Int} {n p q : Int} (h : cP κ T n p) (h0 : 0 ≤ q) (h1 : q ≤ 160) : cE (su κ 5 0 q) T n q := ⟨cT_q h.1 (su_row (by decide)) (su_row (by decide)), ⟨su_eq _ _ _ _, h0, h1⟩, by rw [su_nf (by decide), h.2.1]; exact h.2.2.2.1, by rw [su_nf (by decide), h.2.1]; exact h.2.2.2.2⟩
theorem cP_q {κ κ' : mS} {L : List Nat} {T : Int → Int} {n p : Int} (h : cP κ T n p) (hq : mEq L κ κ') (hL : ∀ g ∈ L, 7 ≤ g) : cP κ' T n p := by
  have e : ∀ f, f < 7 → κ' f = κ f := fun f hf => hq f (fun hh => by have := hL f hh; omega)
  exact ⟨cT_q h.1 (e 3 (by decide)) (e 6 (by decide)), by rw [e 4 (by decide)]; exact h.2.1, by rw [e 5 (by decide)]; exact h.2.2.1, h.2.2.2⟩
theorem cE_q {κ κ' : mS} {L : List Nat} {T : Int → Int} {n e : Int} (h : cE κ T n e) (hq : mEq L κ κ') (hL : ∀ g ∈ L, 7 ≤ g) : cE κ' T n e := by
  have e : ∀ f, f < 7 → κ' f = κ f := fun f hf => hq f (fun hh => by have := hL f hh; omega)
  exact ⟨cT_q h.1 (e 3 (by decide)) (e 6 (by decide)), ⟨by rw [e 5 (by decide)]; exact h.2.1.1, h.2.1.2⟩, by rw [e 4 (by decide)]; exact h.2.2⟩
theorem jc_nu_loop {β : Bool} {d : Nat} {h : jx_H} (hl : 50 ≤ h.length) {T : Int → Int} {n m : Int} : ∀ (k : Nat) (l : List Int) (p : Int) (κ : mS), l.length + k = 6 → (∀ c ∈ l, 48 ≤ c ∧ c ≤ 57) → cP κ T n p → ∃ κ' : mS, (∀ res, jx_r (jz β) jw_M (d + 1) 60 (78, [some (.ref 1), some (.int (Int32.ofInt (m))), some (.int (Int32.ofInt ((l.length : Int) + ((spn pD T n k p).length : Int)))), some (.int (Int32.ofInt (dg (l ++ spn pD T n k p))))], [], (cl_mk h κ')) res → jx_r (jz β) jw_M (d + 1) 60 (33, [some (.ref 1), some (.int (Int32.ofInt (m))), some (.int (Int32.ofInt ((l.length : Int)))), some (.int (Int32.ofInt (dg l)))], [], (cl_mk h κ)) res) ∧ cP κ' T n (p + ((spn pD T n k p).length : Int)) ∧ mEq [4] κ κ'
  | 0, l, p, κ, hlen, hd, hP => by
    refine ⟨κ, fun res kk => ?_, by show cP κ T n (p + ((0 : Nat) : Int)); rw [show p + ((0 : Nat) : Int) = p by omega]; exact hP, mEq_refl _ _⟩
    have kk : jx_r (jz β) jw_M (d + 1) 60 (78, [some (.ref 1), some (.int (Int32.ofInt (m))), some (.int (Int32.ofInt ((l.length : Int) + ((0 : Nat) : Int)))), some (.int (Int32.ofInt (dg (l ++ []))))], [], (cl_mk h κ)) res := kk
    rw [show (l.length : Int) + ((0 : Nat) : Int) = l.length by omega, List.append_nil] at kk
    refine jr_1 jm_60 (show jw_cd cd_60 33 = some (.iload_n 2) by decide +kernel) rfl ?_
    refine jr_1 jm_60 (show jw_cd cd_60 34 = some (.bipush 6) by decide +kernel) (mt_bi (by decide)) ?_
    refine jr_1 jm_60 (show jw_cd cd_60 36 = some (.if_icmp .ge 42) by decide +kernel) (mb_t (q := .ge) (a := (l.length : Int)) (b := 6) (t := 78) (by show 6 ≤ (l.length : Int); omega) ⟨by omega, by omega⟩ ⟨by omega, by omega⟩ (by decide) (by decide)) ?_
    exact kk
  | k + 1, l, p, κ, hlen, hd, hP => by
    obtain ⟨h0, hpn⟩ := hP.2.2.2
    have ht := hP.1.2.2
    have hn160 := ht.2.1
    obtain ⟨-, hH, t0, t1⟩ := tC_H (p := p) ht h0
    have hiff := tC_is (p := p) ht h0 (a := 48) (b := 57) (by decide)
    have hdb := dg_b l 0 1 hd (by omega) (by omega)
    by_cases hD : pD (tH T n p) = true
    · have hcd := hiff.mpr (of_decide_eq_true hD)
      have hlt : p < n ∧ tC T n p = tH T n p := by
        have := of_decide_eq_true hD
        have := hH (by omega)
        exact ⟨this.2, this.1⟩
      have hdg : 0 ≤ dg l ∧ dg l < 1000000 := by
        have e := p10m 6 (by decide) l.length (by omega)
        have e6 : (10 : Int) ^ 6 = 1000000 := by decide
        have hd3 : dg l < 1 * 10 ^ l.length := hdb.2
        have hd4 : 0 ≤ dg l := hdb.1
        omega
      obtain ⟨g0, g1⟩ := hdg
      have hP2 : cP (su κ 4 0 (p + 1)) T n (p + 1) := cP_mv hP (by omega) (by omega)
      have hl2 : (l ++ [tH T n p]).length = l.length + 1 := by rw [List.length_append]; rfl
      obtain ⟨κ', r1, r2, r3⟩ := jc_nu_loop (β := β) (d := d) (m := m) hl k (l ++ [tH T n p]) (p + 1) (su κ 4 0 (p + 1)) (by omega) (fun c hc => by
        rcases List.mem_append.mp hc with hc | hc
        · exact hd c hc
        · rw [List.mem_singleton.mp hc]; exact of_decide_eq_true hD) hP2
      rw [spn_t hD]
      refine ⟨κ', fun res kk => ?_, ?_, fun g hg => (r3 g hg).trans (su_row (by simp only [List.mem_cons, List.mem_nil_iff, or_false] at hg; omega))⟩
      rotate_left
      · rw [show p + ((((tH T n p) :: spn pD T n k (p + 1)).length : Nat) : Int) = p + 1 + ((spn pD T n k (p + 1)).length : Int) by rw [List.length_cons]; omega]
        exact r2
      have r1 := r1 res (by
        rw [List.append_assoc, hl2]
        rw [show ((l.length + 1 : Nat) : Int) + ((spn pD T n k (p + 1)).length : Int) = (l.length : Int) + (((tH T n p :: spn pD T n k (p + 1)).length : Nat) : Int) by rw [List.length_cons]; omega]
        exact kk)
      rw [hl2, dg_snoc, ← hlt.2] at r1
      rw [show (10 * dg l + tC T n p - 48) = (dg l * 10 + (tC T n p - 48)) by omega, show ((l.length + 1 : Nat) : Int) = (l.length : Int) + 1 by omega] at r1
      refine jr_1 jm_60 (show jw_cd cd_60 33 = some (.iload_n 2) by decide +kernel) rfl ?_
      refine jr_1 jm_60 (show jw_cd cd_60 34 = some (.bipush 6) by decide +kernel) (mt_bi (by decide)) ?_
      refine jr_1 jm_60 (show jw_cd cd_60 36 = some (.if_icmp .ge 42) by decide +kernel) (mb_f (q := .ge) (a := (l.length : Int)) (b := 6) (by show ¬ (6 ≤ (l.length : Int)); omega) ⟨by omega, by omega⟩ ⟨by omega, by omega⟩ (by decide)) ?_
      refine jr_1 jm_60 (show jw_cd cd_60 39 = some (.aload_n 0) by decide +kernel) rfl ?_
      refine jr_c jm_60 (show jw_cd cd_60 40 = some (.invokevirtual 36) by decide +kernel) (ccv (n := 0) (m2 := 58) (ci := 1) (a := 1) (bs := []) (r := []) (js_cls cl_c1 (by decide)) (show jw_find jw_cvT 2 36 = some (0, [(1, 58)]) by decide +kernel) (by decide) rfl rfl rfl) jm_58 ⟨Nat.le_of_ble_eq_true rfl, by decide⟩ (jc_here hl hP) ?_
      refine jr_c jm_60 (show jw_cd cd_60 43 = some (.invokestatic 58) by decide +kernel) (mc_s (n := 1) (m2 := 61) (bs := [.int (Int32.ofInt (tC T n p))]) (r := []) (by decide) (show jw_find jw_csT 2 58 = some (61, 1) by decide +kernel) rfl rfl rfl) jm_61 ⟨Nat.le_of_ble_eq_true rfl, by decide⟩ (jc_isD_t hl hcd) ?_
      refine jr_1 jm_60 (show jw_cd cd_60 46 = some (.ifCond .eq 32) by decide +kernel) (mz_f (q := .eq) (a := 1) (by show ¬ (1 = 0); omega) ⟨by omega, by omega⟩ (by decide)) ?_
      refine jr_1 jm_60 (show jw_cd cd_60 49 = some (.iload_n 3) by decide +kernel) rfl ?_
      refine jr_1 jm_60 (show jw_cd cd_60 50 = some (.bipush 10) by decide +kernel) (mt_bi (by decide)) ?_
      refine jr_1 jm_60 (show jw_cd cd_60 52 = some (.imul) by decide +kernel) (mt_mul (c := (dg l) * 10) rfl) ?_
      refine jr_1 jm_60 (show jw_cd cd_60 53 = some (.aload_n 0) by decide +kernel) rfl ?_
      refine jr_c jm_60 (show jw_cd cd_60 54 = some (.invokevirtual 36) by decide +kernel) (ccv (n := 0) (m2 := 58) (ci := 1) (a := 1) (bs := []) (r := [.int (Int32.ofInt ((dg l) * 10))]) (js_cls cl_c1 (by decide)) (show jw_find jw_cvT 2 36 = some (0, [(1, 58)]) by decide +kernel) (by decide) rfl rfl rfl) jm_58 ⟨Nat.le_of_ble_eq_true rfl, by decide⟩ (jc_here hl hP) ?_
      refine jr_1 jm_60 (show jw_cd cd_60 57 = some (.bipush 48) by decide +kernel) (mt_bi (by decide)) ?_
      refine jr_1 jm_60 (show jw_cd cd_60 59 = some (.isub) by decide +kernel) (mt_sub (c := tC T n p - 48) rfl) ?_
      refine jr_1 jm_60 (show jw_cd cd_60 60 = some (.iadd) by decide +kernel) (mt_add (c := (dg l) * 10 + (tC T n p - 48)) rfl) ?_
      refine jr_1 jm_60 (F2 := (62, [some (.ref 1), some (.int (Int32.ofInt (m))), some (.int (Int32.ofInt ((l.length : Int)))), some (.int (Int32.ofInt ((dg l) * 10 + (tC T n p - 48))))], [], (cl_mk h κ))) (show jw_cd cd_60 61 = some (.istore_n 3) by decide +kernel) rfl ?_
      refine jr_1 jm_60 (show jw_cd cd_60 62 = some (.aload_n 0) by decide +kernel) rfl ?_
      refine jr_1 jm_60 (show jw_cd cd_60 63 = some (.dup) by decide +kernel) rfl ?_
      refine jr_1 jm_60 (show jw_cd cd_60 64 = some (.getfield 19) by decide +kernel) (cg_4 (e := p) hP.2.1 (show jw_fld 2 19 1 = some 2 by decide +kernel)) ?_
      refine jr_1 jm_60 (show jw_cd cd_60 67 = some (.iconst 1) by decide +kernel) rfl ?_
      refine jr_1 jm_60 (show jw_cd cd_60 68 = some (.iadd) by decide +kernel) (mt_add (c := p + 1) rfl) ?_
      refine jr_1 jm_60 (show jw_cd cd_60 69 = some (.putfield 19) by decide +kernel) (cp_4 (x := p + 1) (show jw_fld 2 19 1 = some 2 by decide +kernel) (show jw_fm 2 1 2 = some false by decide +kernel)) ?_
      refine jr_1 jm_60 (F2 := (75, [some (.ref 1), some (.int (Int32.ofInt (m))), some (.int (Int32.ofInt ((l.length : Int) + 1))), some (.int (Int32.ofInt ((dg l) * 10 + (tC T n p - 48))))], [], (cl_mk h (su κ 4 (0) (p + 1))))) (show jw_cd cd_60 72 = some (.iinc 2 1) by decide +kernel) (mt_inc (a := (l.length : Int)) (c := (l.length : Int) + 1) rfl (by omega) rfl) ?_
      refine jr_1 jm_60 (show jw_cd cd_60 75 = some (.goto (-42)) by decide +kernel) (ju_go (t := 33) (by decide)) ?_
      exact r1
    · have hcd : ¬ (48 ≤ tC T n p ∧ tC T n p ≤ 57) := fun z => hD (decide_eq_true (hiff.mp z))
      rw [spn_f hD]
      refine ⟨κ, fun res kk => ?_, by show cP κ T n (p + ((0 : Nat) : Int)); rw [show p + ((0 : Nat) : Int) = p by omega]; exact hP, mEq_refl _ _⟩
      have kk : jx_r (jz β) jw_M (d + 1) 60 (78, [some (.ref 1), some (.int (Int32.ofInt (m))), some (.int (Int32.ofInt ((l.length : Int) + ((0 : Nat) : Int)))), some (.int (Int32.ofInt (dg (l ++ []))))], [], (cl_mk h κ)) res := kk
      rw [show (l.length : Int) + ((0 : Nat) : Int) = l.length by omega, List.append_nil] at kk
      refine jr_1 jm_60 (show jw_cd cd_60 33 = some (.iload_n 2) by decide +kernel) rfl ?_
      refine jr_1 jm_60 (show jw_cd cd_60 34 = some (.bipush 6) by decide +kernel) (mt_bi (by decide)) ?_
      refine jr_1 jm_60 (show jw_cd cd_60 36 = some (.if_icmp .ge 42) by decide +kernel) (mb_f (q := .ge) (a := (l.length : Int)) (b := 6) (by show ¬ (6 ≤ (l.length : Int)); omega) ⟨by omega, by omega⟩ ⟨by omega, by omega⟩ (by decide)) ?_
      refine jr_1 jm_60 (show jw_cd cd_60 39 = some (.aload_n 0) by decide +kernel) rfl ?_
      refine jr_c jm_60 (show jw_cd cd_60 40 = some (.invokevirtual 36) by decide +kernel) (ccv (n := 0) (m2 := 58) (ci := 1) (a := 1) (bs := []) (r := []) (js_cls cl_c1 (by decide)) (show jw_find jw_cvT 2 36 = some (0, [(1, 58)]) by decide +kernel) (by decide) rfl rfl rfl) jm_58 ⟨Nat.le_of_ble_eq_true rfl, by decide⟩ (jc_here hl hP) ?_
      refine jr_c jm_60 (show jw_cd cd_60 43 = some (.invokestatic 58) by decide +kernel) (mc_s (n := 1) (m2 := 61) (bs := [.int (Int32.ofInt (tC T n p))]) (r := []) (by decide) (show jw_find jw_csT 2 58 = some (61, 1) by decide +kernel) rfl rfl rfl) jm_61 ⟨Nat.le_of_ble_eq_true rfl, by decide⟩ (jc_isD_f hl ⟨t0, t1⟩ hcd) ?_
      refine jr_1 jm_60 (show jw_cd cd_60 46 = some (.ifCond .eq 32) by decide +kernel) (mz_t (q := .eq) (a := 0) (t := 78) (by show 0 = 0; omega) ⟨by omega, by omega⟩ (by decide) (by decide)) ?_
      exact kk
theorem jc_nu_end {β : Bool} {d : Nat} {h : jx_H} {κ : mS} (hl : 50 ≤ h.length) {T : Int → Int} {n p : Int} (hP : cP κ T n p) {r x m : Int} (hm : m = 0 ∨ m = 1) (hr : 0 ≤ r ∧ r ≤ 6) (hx : 0 ≤ x ∧ x < 1000000) : (r = 0 ∨ pD (tH T n p) = true → jx_r (jz β) jw_M (d + 1) 60 (78, [some (.ref 1), some (.int (Int32.ofInt (m))), some (.int (Int32.ofInt (r))), some (.int (Int32.ofInt (x)))], [], (cl_mk h κ)) (cl_mk h (su κ 5 0 p), .inl (some (.int (Int32.ofInt (if m = 1 then -x else x)))))) ∧ (¬ r = 0 → ¬ pD (tH T n p) = true → jx_r (jz β) jw_M (d + 1) 60 (78, [some (.ref 1), some (.int (Int32.ofInt (m))), some (.int (Int32.ofInt (r))), some (.int (Int32.ofInt (x)))], [], (cl_mk h κ)) (cl_mk h (κ), .inl (some (.int (Int32.ofInt (if m = 1 then -x else x)))))) := by
  obtain ⟨h0, hpn⟩ := hP.2.2.2
  have ht := hP.1.2.2
  have hn160 := ht.2.1
  obtain ⟨r0, r1⟩ := hr
  obtain ⟨x0, x1⟩ := hx
  obtain ⟨-, -, t0, t1⟩ := tC_H (p := p) ht h0
  have hiff := tC_is (p := p) ht h0 (a := 48) (b := 57) (by decide)
  rcases hm with rfl | rfl
  · rw [if_neg (by decide)]
    refine ⟨fun z => ?_, fun z1 z2 => ?_⟩
    · by_cases hr0 : r = 0
      · skip
        refine jr_1 jm_60 (show jw_cd cd_60 78 = some (.iload_n 2) by decide +kernel) rfl ?_
        refine jr_1 jm_60 (show jw_cd cd_60 79 = some (.ifCond .eq 13) by decide +kernel) (mz_t (q := .eq) (a := r) (t := 92) (by show r = 0; omega) ⟨by omega, by omega⟩ (by decide) (by decide)) ?_
        refine jr_1 jm_60 (show jw_cd cd_60 92 = some (.aload_n 0) by decide +kernel) rfl ?_
        refine jr_1 jm_60 (show jw_cd cd_60 93 = some (.aload_n 0) by decide +kernel) rfl ?_
        refine jr_1 jm_60 (show jw_cd cd_60 94 = some (.getfield 19) by decide +kernel) (cg_4 (e := p) hP.2.1 (show jw_fld 2 19 1 = some 2 by decide +kernel)) ?_
        refine jr_c jm_60 (show jw_cd cd_60 97 = some (.invokevirtual 32) by decide +kernel) (ccv (n := 1) (m2 := 62) (ci := 1) (a := 1) (bs := [.int (Int32.ofInt (p))]) (r := []) (js_cls cl_c1 (by decide)) (show jw_find jw_cvT 2 32 = some (1, [(1, 62)]) by decide +kernel) (by decide) rfl rfl rfl) jm_62 ⟨Nat.le_of_ble_eq_true rfl, by decide⟩ (jc_wrongAt hl hP) ?_
        refine jr_1 jm_60 (show jw_cd cd_60 100 = some (.iload_n 1) by decide +kernel) rfl ?_
        refine jr_1 jm_60 (show jw_cd cd_60 101 = some (.ifCond .eq 8) by decide +kernel) (mz_t (q := .eq) (a := 0) (t := 109) (by show 0 = 0; omega) ⟨by omega, by omega⟩ (by decide) (by decide)) ?_
        refine jr_1 jm_60 (show jw_cd cd_60 109 = some (.iload_n 3) by decide +kernel) rfl ?_
        exact jr_v jm_60 (show jw_cd cd_60 110 = some (.ireturn) by decide +kernel) rfl
      · have hcd : 48 ≤ tC T n p ∧ tC T n p ≤ 57 := by
          rcases z with z | z
          · exact absurd z hr0
          · exact hiff.mpr (of_decide_eq_true z)
        refine jr_1 jm_60 (show jw_cd cd_60 78 = some (.iload_n 2) by decide +kernel) rfl ?_
        refine jr_1 jm_60 (show jw_cd cd_60 79 = some (.ifCond .eq 13) by decide +kernel) (mz_f (q := .eq) (a := r) (by show ¬ (r = 0); omega) ⟨by omega, by omega⟩ (by decide)) ?_
        refine jr_1 jm_60 (show jw_cd cd_60 82 = some (.aload_n 0) by decide +kernel) rfl ?_
        refine jr_c jm_60 (show jw_cd cd_60 83 = some (.invokevirtual 36) by decide +kernel) (ccv (n := 0) (m2 := 58) (ci := 1) (a := 1) (bs := []) (r := []) (js_cls cl_c1 (by decide)) (show jw_find jw_cvT 2 36 = some (0, [(1, 58)]) by decide +kernel) (by decide) rfl rfl rfl) jm_58 ⟨Nat.le_of_ble_eq_true rfl, by decide⟩ (jc_here hl hP) ?_
        refine jr_c jm_60 (show jw_cd cd_60 86 = some (.invokestatic 58) by decide +kernel) (mc_s (n := 1) (m2 := 61) (bs := [.int (Int32.ofInt (tC T n p))]) (r := []) (by decide) (show jw_find jw_csT 2 58 = some (61, 1) by decide +kernel) rfl rfl rfl) jm_61 ⟨Nat.le_of_ble_eq_true rfl, by decide⟩ (jc_isD_t hl hcd) ?_
        refine jr_1 jm_60 (show jw_cd cd_60 89 = some (.ifCond .eq 11) by decide +kernel) (mz_f (q := .eq) (a := 1) (by show ¬ (1 = 0); omega) ⟨by omega, by omega⟩ (by decide)) ?_
        refine jr_1 jm_60 (show jw_cd cd_60 92 = some (.aload_n 0) by decide +kernel) rfl ?_
        refine jr_1 jm_60 (show jw_cd cd_60 93 = some (.aload_n 0) by decide +kernel) rfl ?_
        refine jr_1 jm_60 (show jw_cd cd_60 94 = some (.getfield 19) by decide +kernel) (cg_4 (e := p) hP.2.1 (show jw_fld 2 19 1 = some 2 by decide +kernel)) ?_
        refine jr_c jm_60 (show jw_cd cd_60 97 = some (.invokevirtual 32) by decide +kernel) (ccv (n := 1) (m2 := 62) (ci := 1) (a := 1) (bs := [.int (Int32.ofInt (p))]) (r := []) (js_cls cl_c1 (by decide)) (show jw_find jw_cvT 2 32 = some (1, [(1, 62)]) by decide +kernel) (by decide) rfl rfl rfl) jm_62 ⟨Nat.le_of_ble_eq_true rfl, by decide⟩ (jc_wrongAt hl hP) ?_
        refine jr_1 jm_60 (show jw_cd cd_60 100 = some (.iload_n 1) by decide +kernel) rfl ?_
        refine jr_1 jm_60 (show jw_cd cd_60 101 = some (.ifCond .eq 8) by decide +kernel) (mz_t (q := .eq) (a := 0) (t := 109) (by show 0 = 0; omega) ⟨by omega, by omega⟩ (by decide) (by decide)) ?_
        refine jr_1 jm_60 (show jw_cd cd_60 109 = some (.iload_n 3) by decide +kernel) rfl ?_
        exact jr_v jm_60 (show jw_cd cd_60 110 = some (.ireturn) by decide +kernel) rfl
    · have hcd : ¬ (48 ≤ tC T n p ∧ tC T n p ≤ 57) := fun z => z2 (decide_eq_true (hiff.mp z))
      refine jr_1 jm_60 (show jw_cd cd_60 78 = some (.iload_n 2) by decide +kernel) rfl ?_
      refine jr_1 jm_60 (show jw_cd cd_60 79 = some (.ifCond .eq 13) by decide +kernel) (mz_f (q := .eq) (a := r) (by show ¬ (r = 0); omega) ⟨by omega, by omega⟩ (by decide)) ?_
      refine jr_1 jm_60 (show jw_cd cd_60 82 = some (.aload_n 0) by decide +kernel) rfl ?_
      refine jr_c jm_60 (show jw_cd cd_60 83 = some (.invokevirtual 36) by decide +kernel) (ccv (n := 0) (m2 := 58) (ci := 1) (a := 1) (bs := []) (r := []) (js_cls cl_c1 (by decide)) (show jw_find jw_cvT 2 36 = some (0, [(1, 58)]) by decide +kernel) (by decide) rfl rfl rfl) jm_58 ⟨Nat.le_of_ble_eq_true rfl, by decide⟩ (jc_here hl hP) ?_
      refine jr_c jm_60 (show jw_cd cd_60 86 = some (.invokestatic 58) by decide +kernel) (mc_s (n := 1) (m2 := 61) (bs := [.int (Int32.ofInt (tC T n p))]) (r := []) (by decide) (show jw_find jw_csT 2 58 = some (61, 1) by decide +kernel) rfl rfl rfl) jm_61 ⟨Nat.le_of_ble_eq_true rfl, by decide⟩ (jc_isD_f hl ⟨t0, t1⟩ hcd) ?_
      refine jr_1 jm_60 (show jw_cd cd_60 89 = some (.ifCond .eq 11) by decide +kernel) (mz_t (q := .eq) (a := 0) (t := 100) (by show 0 = 0; omega) ⟨by omega, by omega⟩ (by decide) (by decide)) ?_
      refine jr_1 jm_60 (show jw_cd cd_60 100 = some (.iload_n 1) by decide +kernel) rfl ?_
      refine jr_1 jm_60 (show jw_cd cd_60 101 = some (.ifCond .eq 8) by decide +kernel) (mz_t (q := .eq) (a := 0) (t := 109) (by show 0 = 0; omega) ⟨by omega, by omega⟩ (by decide) (by decide)) ?_
      refine jr_1 jm_60 (show jw_cd cd_60 109 = some (.iload_n 3) by decide +kernel) rfl ?_
      exact jr_v jm_60 (show jw_cd cd_60 110 = some (.ireturn) by decide +kernel) rfl
  · rw [if_pos rfl]
    refine ⟨fun z => ?_, fun z1 z2 => ?_⟩
    · by_cases hr0 : r = 0
      · skip
        refine jr_1 jm_60 (show jw_cd cd_60 78 = some (.iload_n 2) by decide +kernel) rfl ?_
        refine jr_1 jm_60 (show jw_cd cd_60 79 = some (.ifCond .eq 13) by decide +kernel) (mz_t (q := .eq) (a := r) (t := 92) (by show r = 0; omega) ⟨by omega, by omega⟩ (by decide) (by decide)) ?_
        refine jr_1 jm_60 (show jw_cd cd_60 92 = some (.aload_n 0) by decide +kernel) rfl ?_
        refine jr_1 jm_60 (show jw_cd cd_60 93 = some (.aload_n 0) by decide +kernel) rfl ?_
        refine jr_1 jm_60 (show jw_cd cd_60 94 = some (.getfield 19) by decide +kernel) (cg_4 (e := p) hP.2.1 (show jw_fld 2 19 1 = some 2 by decide +kernel)) ?_
        refine jr_c jm_60 (show jw_cd cd_60 97 = some (.invokevirtual 32) by decide +kernel) (ccv (n := 1) (m2 := 62) (ci := 1) (a := 1) (bs := [.int (Int32.ofInt (p))]) (r := []) (js_cls cl_c1 (by decide)) (show jw_find jw_cvT 2 32 = some (1, [(1, 62)]) by decide +kernel) (by decide) rfl rfl rfl) jm_62 ⟨Nat.le_of_ble_eq_true rfl, by decide⟩ (jc_wrongAt hl hP) ?_
        refine jr_1 jm_60 (show jw_cd cd_60 100 = some (.iload_n 1) by decide +kernel) rfl ?_
        refine jr_1 jm_60 (show jw_cd cd_60 101 = some (.ifCond .eq 8) by decide +kernel) (mz_f (q := .eq) (a := 1) (by show ¬ (1 = 0); omega) ⟨by omega, by omega⟩ (by decide)) ?_
        refine jr_1 jm_60 (show jw_cd cd_60 104 = some (.iload_n 3) by decide +kernel) rfl ?_
        refine jr_1 jm_60 (show jw_cd cd_60 105 = some (.ineg) by decide +kernel) (mt_neg (c := -(x)) rfl) ?_
        refine jr_1 jm_60 (show jw_cd cd_60 106 = some (.goto 4) by decide +kernel) (ju_go (t := 110) (by decide)) ?_
        exact jr_v jm_60 (show jw_cd cd_60 110 = some (.ireturn) by decide +kernel) rfl
      · have hcd : 48 ≤ tC T n p ∧ tC T n p ≤ 57 := by
          rcases z with z | z
          · exact absurd z hr0
          · exact hiff.mpr (of_decide_eq_true z)
        refine jr_1 jm_60 (show jw_cd cd_60 78 = some (.iload_n 2) by decide +kernel) rfl ?_
        refine jr_1 jm_60 (show jw_cd cd_60 79 = some (.ifCond .eq 13) by decide +kernel) (mz_f (q := .eq) (a := r) (by show ¬ (r = 0); omega) ⟨by omega, by omega⟩ (by decide)) ?_
        refine jr_1 jm_60 (show jw_cd cd_60 82 = some (.aload_n 0) by decide +kernel) rfl ?_
        refine jr_c jm_60 (show jw_cd cd_60 83 = some (.invokevirtual 36) by decide +kernel) (ccv (n := 0) (m2 := 58) (ci := 1) (a := 1) (bs := []) (r := []) (js_cls cl_c1 (by decide)) (show jw_find jw_cvT 2 36 = some (0, [(1, 58)]) by decide +kernel) (by decide) rfl rfl rfl) jm_58 ⟨Nat.le_of_ble_eq_true rfl, by decide⟩ (jc_here hl hP) ?_
        refine jr_c jm_60 (show jw_cd cd_60 86 = some (.invokestatic 58) by decide +kernel) (mc_s (n := 1) (m2 := 61) (bs := [.int (Int32.ofInt (tC T n p))]) (r := []) (by decide) (show jw_find jw_csT 2 58 = some (61, 1) by decide +kernel) rfl rfl rfl) jm_61 ⟨Nat.le_of_ble_eq_true rfl, by decide⟩ (jc_isD_t hl hcd) ?_
        refine jr_1 jm_60 (show jw_cd cd_60 89 = some (.ifCond .eq 11) by decide +kernel) (mz_f (q := .eq) (a := 1) (by show ¬ (1 = 0); omega) ⟨by omega, by omega⟩ (by decide)) ?_
        refine jr_1 jm_60 (show jw_cd cd_60 92 = some (.aload_n 0) by decide +kernel) rfl ?_
        refine jr_1 jm_60 (show jw_cd cd_60 93 = some (.aload_n 0) by decide +kernel) rfl ?_
        refine jr_1 jm_60 (show jw_cd cd_60 94 = some (.getfield 19) by decide +kernel) (cg_4 (e := p) hP.2.1 (show jw_fld 2 19 1 = some 2 by decide +kernel)) ?_
        refine jr_c jm_60 (show jw_cd cd_60 97 = some (.invokevirtual 32) by decide +kernel) (ccv (n := 1) (m2 := 62) (ci := 1) (a := 1) (bs := [.int (Int32.ofInt (p))]) (r := []) (js_cls cl_c1 (by decide)) (show jw_find jw_cvT 2 32 = some (1, [(1, 62)]) by decide +kernel) (by decide) rfl rfl rfl) jm_62 ⟨Nat.le_of_ble_eq_true rfl, by decide⟩ (jc_wrongAt hl hP) ?_
        refine jr_1 jm_60 (show jw_cd cd_60 100 = some (.iload_n 1) by decide +kernel) rfl ?_
        refine jr_1 jm_60 (show jw_cd cd_60 101 = some (.ifCond .eq 8) by decide +kernel) (mz_f (q := .eq) (a := 1) (by show ¬ (1 = 0); omega) ⟨by omega, by omega⟩ (by decide)) ?_
        refine jr_1 jm_60 (show jw_cd cd_60 104 = some (.iload_n 3) by decide +kernel) rfl ?_
        refine jr_1 jm_60 (show jw_cd cd_60 105 = some (.ineg) by decide +kernel) (mt_neg (c := -(x)) rfl) ?_
        refine jr_1 jm_60 (show jw_cd cd_60 106 = some (.goto 4) by decide +kernel) (ju_go (t := 110) (by decide)) ?_
        exact jr_v jm_60 (show jw_cd cd_60 110 = some (.ireturn) by decide +kernel) rfl
    · have hcd : ¬ (48 ≤ tC T n p ∧ tC T n p ≤ 57) := fun z => z2 (decide_eq_true (hiff.mp z))
      refine jr_1 jm_60 (show jw_cd cd_60 78 = some (.iload_n 2) by decide +kernel) rfl ?_
      refine jr_1 jm_60 (show jw_cd cd_60 79 = some (.ifCond .eq 13) by decide +kernel) (mz_f (q := .eq) (a := r) (by show ¬ (r = 0); omega) ⟨by omega, by omega⟩ (by decide)) ?_
      refine jr_1 jm_60 (show jw_cd cd_60 82 = some (.aload_n 0) by decide +kernel) rfl ?_
      refine jr_c jm_60 (show jw_cd cd_60 83 = some (.invokevirtual 36) by decide +kernel) (ccv (n := 0) (m2 := 58) (ci := 1) (a := 1) (bs := []) (r := []) (js_cls cl_c1 (by decide)) (show jw_find jw_cvT 2 36 = some (0, [(1, 58)]) by decide +kernel) (by decide) rfl rfl rfl) jm_58 ⟨Nat.le_of_ble_eq_true rfl, by decide⟩ (jc_here hl hP) ?_
      refine jr_c jm_60 (show jw_cd cd_60 86 = some (.invokestatic 58) by decide +kernel) (mc_s (n := 1) (m2 := 61) (bs := [.int (Int32.ofInt (tC T n p))]) (r := []) (by decide) (show jw_find jw_csT 2 58 = some (61, 1) by decide +kernel) rfl rfl rfl) jm_61 ⟨Nat.le_of_ble_eq_true rfl, by decide⟩ (jc_isD_f hl ⟨t0, t1⟩ hcd) ?_
      refine jr_1 jm_60 (show jw_cd cd_60 89 = some (.ifCond .eq 11) by decide +kernel) (mz_t (q := .eq) (a := 0) (t := 100) (by show 0 = 0; omega) ⟨by omega, by omega⟩ (by decide) (by decide)) ?_
      refine jr_1 jm_60 (show jw_cd cd_60 100 = some (.iload_n 1) by decide +kernel) rfl ?_
      refine jr_1 jm_60 (show jw_cd cd_60 101 = some (.ifCond .eq 8) by decide +kernel) (mz_f (q := .eq) (a := 1) (by show ¬ (1 = 0); omega) ⟨by omega, by omega⟩ (by decide)) ?_
      refine jr_1 jm_60 (show jw_cd cd_60 104 = some (.iload_n 3) by decide +kernel) rfl ?_
      refine jr_1 jm_60 (show jw_cd cd_60 105 = some (.ineg) by decide +kernel) (mt_neg (c := -(x)) rfl) ?_
      refine jr_1 jm_60 (show jw_cd cd_60 106 = some (.goto 4) by decide +kernel) (ju_go (t := 110) (by decide)) ?_
      exact jr_v jm_60 (show jw_cd cd_60 110 = some (.ireturn) by decide +kernel) rfl
theorem jc_num {β : Bool} {d : Nat} {h : jx_H} {κ : mS} (hl : 50 ≤ h.length) {T : Int → Int} {n p : Int} (hP : cP κ T n p) : (∀ x q, sNum T n p = .inr (x, q) → ∃ κ' : mS, jx_r (jz β) jw_M (d + 1) 60 (0, [some (.ref 1), none, none, none], [], (cl_mk h κ)) (cl_mk h (κ'), .inl (some (.int (Int32.ofInt (x))))) ∧ cP κ' T n q ∧ mEq [4] κ κ') ∧ (∀ e, sNum T n p = .inl e → ∃ (κ' : mS) (x : Int), jx_r (jz β) jw_M (d + 1) 60 (0, [some (.ref 1), none, none, none], [], (cl_mk h κ)) (cl_mk h (κ'), .inl (some (.int (Int32.ofInt (x))))) ∧ cE κ' T n e ∧ mEq [4, 5] κ κ' ∧ mr x) := by
  obtain ⟨h0, hpn⟩ := hP.2.2.2
  have ht := hP.1.2.2
  have hn160 := ht.2.1
  have hh := tH_r (p := p) ht h0
  obtain ⟨-, -, t0, t1⟩ := tC_H (p := p) ht h0
  have hiff := tC_eq (p := p) ht h0 (c := 45) (by decide)
  obtain ⟨p2, hp2⟩ : ∃ p2, p2 = if tH T n p = 45 then p + 1 else p := ⟨_, rfl⟩
  obtain ⟨m, hm⟩ : ∃ m : Int, m = if tH T n p = 45 then 1 else 0 := ⟨_, rfl⟩
  have hcase : (tH T n p = 45 ∧ p2 = p + 1 ∧ m = 1 ∧ p < n) ∨ (¬ tH T n p = 45 ∧ p2 = p ∧ m = 0) := by
    by_cases h45 : tH T n p = 45
    · exact Or.inl ⟨h45, by rw [hp2, if_pos h45], by rw [hm, if_pos h45], hh.2.2.2 (by omega)⟩
    · exact Or.inr ⟨h45, by rw [hp2, if_neg h45], by rw [hm, if_neg h45]⟩
  have hm01 : m = 0 ∨ m = 1 := by omega
  have hst : ∃ κ1 : mS, (∀ res, jx_r (jz β) jw_M (d + 1) 60 (33, [some (.ref 1), some (.int (Int32.ofInt (m))), some (.int (Int32.ofInt (0))), some (.int (Int32.ofInt (0)))], [], (cl_mk h κ1)) res → jx_r (jz β) jw_M (d + 1) 60 (0, [some (.ref 1), none, none, none], [], (cl_mk h κ)) res) ∧ cP κ1 T n p2 ∧ mEq [4] κ κ1 := by
    rcases hcase with ⟨c1, c2, c3, c4⟩ | ⟨c1, c2, c3⟩
    · have hc := hiff.mpr c1
      rw [c2, c3]
      refine ⟨su κ 4 0 (p + 1), fun res kk => ?_, cP_mv hP (by omega) (by omega), fun g hg => su_row (by simp only [List.mem_cons, List.mem_nil_iff, or_false] at hg; omega)⟩
      refine jr_1 jm_60 (show jw_cd cd_60 0 = some (.aload_n 0) by decide +kernel) rfl ?_
      refine jr_c jm_60 (show jw_cd cd_60 1 = some (.invokevirtual 36) by decide +kernel) (ccv (n := 0) (m2 := 58) (ci := 1) (a := 1) (bs := []) (r := []) (js_cls cl_c1 (by decide)) (show jw_find jw_cvT 2 36 = some (0, [(1, 58)]) by decide +kernel) (by decide) rfl rfl rfl) jm_58 ⟨Nat.le_of_ble_eq_true rfl, by decide⟩ (jc_here hl hP) ?_
      refine jr_1 jm_60 (show jw_cd cd_60 4 = some (.bipush 45) by decide +kernel) (mt_bi (by decide)) ?_
      refine jr_1 jm_60 (show jw_cd cd_60 6 = some (.if_icmp .ne 7) by decide +kernel) (mb_f (q := .ne) (a := tC T n p) (b := 45) (by show ¬ (¬ (tC T n p = 45)); omega) ⟨by omega, by omega⟩ ⟨by omega, by omega⟩ (by decide)) ?_
      refine jr_1 jm_60 (show jw_cd cd_60 9 = some (.iconst 1) by decide +kernel) rfl ?_
      refine jr_1 jm_60 (show jw_cd cd_60 10 = some (.goto 4) by decide +kernel) (ju_go (t := 14) (by decide)) ?_
      refine jr_1 jm_60 (F2 := (15, [some (.ref 1), some (.int (Int32.ofInt (1))), none, none], [], (cl_mk h κ))) (show jw_cd cd_60 14 = some (.istore_n 1) by decide +kernel) rfl ?_
      refine jr_1 jm_60 (show jw_cd cd_60 15 = some (.iload_n 1) by decide +kernel) rfl ?_
      refine jr_1 jm_60 (show jw_cd cd_60 16 = some (.ifCond .eq 13) by decide +kernel) (mz_f (q := .eq) (a := 1) (by show ¬ (1 = 0); omega) ⟨by omega, by omega⟩ (by decide)) ?_
      refine jr_1 jm_60 (show jw_cd cd_60 19 = some (.aload_n 0) by decide +kernel) rfl ?_
      refine jr_1 jm_60 (show jw_cd cd_60 20 = some (.dup) by decide +kernel) rfl ?_
      refine jr_1 jm_60 (show jw_cd cd_60 21 = some (.getfield 19) by decide +kernel) (cg_4 (e := p) hP.2.1 (show jw_fld 2 19 1 = some 2 by decide +kernel)) ?_
      refine jr_1 jm_60 (show jw_cd cd_60 24 = some (.iconst 1) by decide +kernel) rfl ?_
      refine jr_1 jm_60 (show jw_cd cd_60 25 = some (.iadd) by decide +kernel) (mt_add (c := p + 1) rfl) ?_
      refine jr_1 jm_60 (show jw_cd cd_60 26 = some (.putfield 19) by decide +kernel) (cp_4 (x := p + 1) (show jw_fld 2 19 1 = some 2 by decide +kernel) (show jw_fm 2 1 2 = some false by decide +kernel)) ?_
      refine jr_1 jm_60 (show jw_cd cd_60 29 = some (.iconst 0) by decide +kernel) rfl ?_
      refine jr_1 jm_60 (F2 := (31, [some (.ref 1), some (.int (Int32.ofInt (1))), some (.int (Int32.ofInt (0))), none], [], (cl_mk h (su κ 4 (0) (p + 1))))) (show jw_cd cd_60 30 = some (.istore_n 2) by decide +kernel) rfl ?_
      refine jr_1 jm_60 (show jw_cd cd_60 31 = some (.iconst 0) by decide +kernel) rfl ?_
      refine jr_1 jm_60 (F2 := (33, [some (.ref 1), some (.int (Int32.ofInt (1))), some (.int (Int32.ofInt (0))), some (.int (Int32.ofInt (0)))], [], (cl_mk h (su κ 4 (0) (p + 1))))) (show jw_cd cd_60 32 = some (.istore_n 3) by decide +kernel) rfl ?_
      exact kk
    · have hc : ¬ tC T n p = 45 := fun z => c1 (hiff.mp z)
      rw [c2, c3]
      refine ⟨κ, fun res kk => ?_, hP, mEq_refl _ _⟩
      refine jr_1 jm_60 (show jw_cd cd_60 0 = some (.aload_n 0) by decide +kernel) rfl ?_
      refine jr_c jm_60 (show jw_cd cd_60 1 = some (.invokevirtual 36) by decide +kernel) (ccv (n := 0) (m2 := 58) (ci := 1) (a := 1) (bs := []) (r := []) (js_cls cl_c1 (by decide)) (show jw_find jw_cvT 2 36 = some (0, [(1, 58)]) by decide +kernel) (by decide) rfl rfl rfl) jm_58 ⟨Nat.le_of_ble_eq_true rfl, by decide⟩ (jc_here hl hP) ?_
      refine jr_1 jm_60 (show jw_cd cd_60 4 = some (.bipush 45) by decide +kernel) (mt_bi (by decide)) ?_
      refine jr_1 jm_60 (show jw_cd cd_60 6 = some (.if_icmp .ne 7) by decide +kernel) (mb_t (q := .ne) (a := tC T n p) (b := 45) (t := 13) (by show ¬ (tC T n p = 45); omega) ⟨by omega, by omega⟩ ⟨by omega, by omega⟩ (by decide) (by decide)) ?_
      refine jr_1 jm_60 (show jw_cd cd_60 13 = some (.iconst 0) by decide +kernel) rfl ?_
      refine jr_1 jm_60 (F2 := (15, [some (.ref 1), some (.int (Int32.ofInt (0))), none, none], [], (cl_mk h κ))) (show jw_cd cd_60 14 = some (.istore_n 1) by decide +kernel) rfl ?_
      refine jr_1 jm_60 (show jw_cd cd_60 15 = some (.iload_n 1) by decide +kernel) rfl ?_
      refine jr_1 jm_60 (show jw_cd cd_60 16 = some (.ifCond .eq 13) by decide +kernel) (mz_t (q := .eq) (a := 0) (t := 29) (by show 0 = 0; omega) ⟨by omega, by omega⟩ (by decide) (by decide)) ?_
      refine jr_1 jm_60 (show jw_cd cd_60 29 = some (.iconst 0) by decide +kernel) rfl ?_
      refine jr_1 jm_60 (F2 := (31, [some (.ref 1), some (.int (Int32.ofInt (0))), some (.int (Int32.ofInt (0))), none], [], (cl_mk h κ))) (show jw_cd cd_60 30 = some (.istore_n 2) by decide +kernel) rfl ?_
      refine jr_1 jm_60 (show jw_cd cd_60 31 = some (.iconst 0) by decide +kernel) rfl ?_
      refine jr_1 jm_60 (F2 := (33, [some (.ref 1), some (.int (Int32.ofInt (0))), some (.int (Int32.ofInt (0))), some (.int (Int32.ofInt (0)))], [], (cl_mk h κ))) (show jw_cd cd_60 32 = some (.istore_n 3) by decide +kernel) rfl ?_
      exact kk
  obtain ⟨κ1, s1, s2, s3⟩ := hst
  obtain ⟨κ2, l1, l2, l3⟩ := jc_nu_loop (β := β) (d := d) (h := h) (m := m) hl 6 [] p2 κ1 rfl (fun c hc => absurd hc List.not_mem_nil) s2
  obtain ⟨r6, hr6⟩ : ∃ r6, r6 = spn pD T n 6 p2 := ⟨_, rfl⟩
  rw [← hr6, List.nil_append] at l1
  rw [← hr6] at l2
  have l1 : ∀ res, jx_r (jz β) jw_M (d + 1) 60 (78, [some (.ref 1), some (.int (Int32.ofInt (m))), some (.int (Int32.ofInt (((0 : Nat) : Int) + (r6.length : Int)))), some (.int (Int32.ofInt (dg r6)))], [], (cl_mk h κ2)) res → jx_r (jz β) jw_M (d + 1) 60 (33, [some (.ref 1), some (.int (Int32.ofInt (m))), some (.int (Int32.ofInt (0))), some (.int (Int32.ofInt (0)))], [], (cl_mk h κ1)) res := l1
  rw [show ((0 : Nat) : Int) + (r6.length : Int) = r6.length by omega] at l1
  have hlen6 := spn_le (P := pD) (T := T) (n := n) 6 p2
  rw [← hr6] at hlen6
  have hdb := dg_b r6 0 1 (fun c hc => by rw [hr6] at hc; exact spn_dig 6 p2 c hc) (by omega) (by omega)
  have hdg : 0 ≤ dg r6 ∧ dg r6 < 1000000 := by
    have e := p10m 6 (by decide) r6.length (by omega)
    have e6 : (10 : Int) ^ 6 = 1000000 := by decide
    have hd3 : dg r6 < 1 * 10 ^ r6.length := hdb.2
    have hd4 : 0 ≤ dg r6 := hdb.1
    omega
  obtain ⟨z1, z2⟩ := jc_nu_end (β := β) (d := d) (h := h) (κ := κ2) (r := r6.length) (x := dg r6) hl l2 hm01 ⟨by omega, by omega⟩ hdg
  have hcut : ((spn pD T n 7 p2).length ≤ 6 → spn pD T n 6 p2 = spn pD T n 7 p2 ∧ ¬ pD (tH T n (p2 + (spn pD T n 6 p2).length)) = true) ∧ ((spn pD T n 7 p2).length = 7 → (spn pD T n 6 p2).length = 6 ∧ pD (tH T n (p2 + 6)) = true) := spn_cut (P := pD) (T := T) (n := n) 6 p2
  rw [← hr6] at hcut
  have hq12 : mEq [4] κ κ2 := fun g hg => (l3 g hg).trans (s3 g hg)
  have hxr : mr (if m = 1 then -dg r6 else dg r6) := if_mr ⟨by omega, by omega⟩ ⟨by omega, by omega⟩
  unfold sNum
  rw [← hp2]
  by_cases hl0 : (spn pD T n 7 p2).length = 0
  · rw [if_pos hl0]
    have h6 : r6 = [] := by
      have := (hcut.1 (by omega)).1
      rw [this]
      exact List.eq_nil_of_length_eq_zero hl0
    refine ⟨fun x q he => (by cases he), fun e he => ?_⟩
    cases he
    have z := z1 (Or.inl (by rw [h6]; rfl))
    have hpe : p2 + (r6.length : Int) = p2 := by rw [h6]; show p2 + ((0 : Nat) : Int) = p2; omega
    rw [hpe] at z l2
    exact ⟨_, _, s1 _ (l1 _ z), cP_w l2 l2.2.2.2.1 (by have := l2.2.2.2.2; omega), fun g hg => (su_row (by simp only [List.mem_cons, List.mem_nil_iff, or_false] at hg; omega)).trans (hq12 g (by simp only [List.mem_cons, List.mem_nil_iff, or_false] at hg ⊢; omega)), hxr⟩
  · rw [if_neg hl0]
    by_cases hl7 : (spn pD T n 7 p2).length = 7
    · rw [if_pos hl7]
      obtain ⟨c1, c2⟩ := hcut.2 hl7
      refine ⟨fun x q he => (by cases he), fun e he => ?_⟩
      cases he
      have hpe : p2 + (r6.length : Int) = p2 + 6 := by rw [c1]; rfl
      rw [hpe] at z1 l2
      have z := z1 (Or.inr c2)
      exact ⟨_, _, s1 _ (l1 _ z), cP_w l2 l2.2.2.2.1 (by have := l2.2.2.2.2; omega), fun g hg => (su_row (by simp only [List.mem_cons, List.mem_nil_iff, or_false] at hg; omega)).trans (hq12 g (by simp only [List.mem_cons, List.mem_nil_iff, or_false] at hg ⊢; omega)), hxr⟩
    · rw [if_neg hl7]
      have h7 := spn_le (P := pD) (T := T) (n := n) 7 p2
      obtain ⟨c1, c2⟩ := hcut.1 (by omega)
      rw [← c1]
      refine ⟨fun x q he => ?_, fun e he => (by cases he)⟩
      cases he
      have z := z2 (by rw [← c1] at hl0; omega) c2
      have hxe : (if m = 1 then -dg r6 else dg r6) = if tH T n p = 45 then -dg r6 else dg r6 := by
        rcases hcase with ⟨a1, a2, a3, a4⟩ | ⟨a1, a2, a3⟩
        · rw [if_pos a3, if_pos a1]
        · rw [if_neg (by omega), if_neg a1]
      rw [hxe] at z
      exact ⟨κ2, s1 _ (l1 _ z), l2, hq12⟩
theorem jc_numW {β : Bool} {d : Nat} {h : jx_H} {κ : mS} (hl : 50 ≤ h.length) {e : Int} (hW : cW κ e) : jx_r (jz β) jw_M (d + 1) 60 (0, [some (.ref 1), none, none, none], [], (cl_mk h κ)) (cl_mk h (κ), .inl (some (.int (Int32.ofInt (0))))) := by
  refine jr_1 jm_60 (show jw_cd cd_60 0 = some (.aload_n 0) by decide +kernel) rfl ?_
  refine jr_c jm_60 (show jw_cd cd_60 1 = some (.invokevirtual 36) by decide +kernel) (ccv (n := 0) (m2 := 58) (ci := 1) (a := 1) (bs := []) (r := []) (js_cls cl_c1 (by decide)) (show jw_find jw_cvT 2 36 = some (0, [(1, 58)]) by decide +kernel) (by decide) rfl rfl rfl) jm_58 ⟨Nat.le_of_ble_eq_true rfl, by decide⟩ (jc_hereW hl hW) ?_
  refine jr_1 jm_60 (show jw_cd cd_60 4 = some (.bipush 45) by decide +kernel) (mt_bi (by decide)) ?_
  refine jr_1 jm_60 (show jw_cd cd_60 6 = some (.if_icmp .ne 7) by decide +kernel) (mb_t (q := .ne) (a := 0) (b := 45) (t := 13) (by show ¬ (0 = 45); omega) ⟨by omega, by omega⟩ ⟨by omega, by omega⟩ (by decide) (by decide)) ?_
  refine jr_1 jm_60 (show jw_cd cd_60 13 = some (.iconst 0) by decide +kernel) rfl ?_
  refine jr_1 jm_60 (F2 := (15, [some (.ref 1), some (.int (Int32.ofInt (0))), none, none], [], (cl_mk h κ))) (show jw_cd cd_60 14 = some (.istore_n 1) by decide +kernel) rfl ?_
  refine jr_1 jm_60 (show jw_cd cd_60 15 = some (.iload_n 1) by decide +kernel) rfl ?_
  refine jr_1 jm_60 (show jw_cd cd_60 16 = some (.ifCond .eq 13) by decide +kernel) (mz_t (q := .eq) (a := 0) (t := 29) (by show 0 = 0; omega) ⟨by omega, by omega⟩ (by decide) (by decide)) ?_
  refine jr_1 jm_60 (show jw_cd cd_60 29 = some (.iconst 0) by decide +kernel) rfl ?_
  refine jr_1 jm_60 (F2 := (31, [some (.ref 1), some (.int (Int32.ofInt (0))), some (.int (Int32.ofInt (0))), none], [], (cl_mk h κ))) (show jw_cd cd_60 30 = some (.istore_n 2) by decide +kernel) rfl ?_
  refine jr_1 jm_60 (show jw_cd cd_60 31 = some (.iconst 0) by decide +kernel) rfl ?_
  refine jr_1 jm_60 (F2 := (33, [some (.ref 1), some (.int (Int32.ofInt (0))), some (.int (Int32.ofInt (0))), some (.int (Int32.ofInt (0)))], [], (cl_mk h κ))) (show jw_cd cd_60 32 = some (.istore_n 3) by decide +kernel) rfl ?_
  refine jr_1 jm_60 (show jw_cd cd_60 33 = some (.iload_n 2) by decide +kernel) rfl ?_
  refine jr_1 jm_60 (show jw_cd cd_60 34 = some (.bipush 6) by decide +kernel) (mt_bi (by decide)) ?_
  refine jr_1 jm_60 (show jw_cd cd_60 36 = some (.if_icmp .ge 42) by decide +kernel) (mb_f (q := .ge) (a := 0) (b := 6) (by show ¬ (6 ≤ 0); omega) ⟨by omega, by omega⟩ ⟨by omega, by omega⟩ (by decide)) ?_
  refine jr_1 jm_60 (show jw_cd cd_60 39 = some (.aload_n 0) by decide +kernel) rfl ?_
  refine jr_c jm_60 (show jw_cd cd_60 40 = some (.invokevirtual 36) by decide +kernel) (ccv (n := 0) (m2 := 58) (ci := 1) (a := 1) (bs := []) (r := []) (js_cls cl_c1 (by decide)) (show jw_find jw_cvT 2 36 = some (0, [(1, 58)]) by decide +kernel) (by decide) rfl rfl rfl) jm_58 ⟨Nat.le_of_ble_eq_true rfl, by decide⟩ (jc_hereW hl hW) ?_
  refine jr_c jm_60 (show jw_cd cd_60 43 = some (.invokestatic 58) by decide +kernel) (mc_s (n := 1) (m2 := 61) (bs := [.int (Int32.ofInt (0))]) (r := []) (by decide) (show jw_find jw_csT 2 58 = some (61, 1) by decide +kernel) rfl rfl rfl) jm_61 ⟨Nat.le_of_ble_eq_true rfl, by decide⟩ (jc_isD_f hl ⟨by decide, by decide⟩ (by decide)) ?_
  refine jr_1 jm_60 (show jw_cd cd_60 46 = some (.ifCond .eq 32) by decide +kernel) (mz_t (q := .eq) (a := 0) (t := 78) (by show 0 = 0; omega) ⟨by omega, by omega⟩ (by decide) (by decide)) ?_
  refine jr_1 jm_60 (show jw_cd cd_60 78 = some (.iload_n 2) by decide +kernel) rfl ?_
  refine jr_1 jm_60 (show jw_cd cd_60 79 = some (.ifCond .eq 13) by decide +kernel) (mz_t (q := .eq) (a := 0) (t := 92) (by show 0 = 0; omega) ⟨by omega, by omega⟩ (by decide) (by decide)) ?_
  refine jr_1 jm_60 (show jw_cd cd_60 92 = some (.aload_n 0) by decide +kernel) rfl ?_
  refine jr_1 jm_60 (show jw_cd cd_60 93 = some (.aload_n 0) by decide +kernel) rfl ?_
  refine jr_1 jm_60 (show jw_cd cd_60 94 = some (.getfield 19) by decide +kernel) (cg_4 (e := κ 4 0) rfl (show jw_fld 2 19 1 = some 2 by decide +kernel)) ?_
  refine jr_c jm_60 (show jw_cd cd_60 97 = some (.invokevirtual 32) by decide +kernel) (ccv (n := 1) (m2 := 62) (ci := 1) (a := 1) (bs := [.int (Int32.ofInt (κ 4 0))]) (r := []) (js_cls cl_c1 (by decide)) (show jw_find jw_cvT 2 32 = some (1, [(1, 62)]) by decide +kernel) (by decide) rfl rfl rfl) jm_62 ⟨Nat.le_of_ble_eq_true rfl, by decide⟩ (jc_wrongW hl hW) ?_
  refine jr_1 jm_60 (show jw_cd cd_60 100 = some (.iload_n 1) by decide +kernel) rfl ?_
  refine jr_1 jm_60 (show jw_cd cd_60 101 = some (.ifCond .eq 8) by decide +kernel) (mz_t (q := .eq) (a := 0) (t := 109) (by show 0 = 0; omega) ⟨by omega, by omega⟩ (by decide) (by decide)) ?_
  refine jr_1 jm_60 (show jw_cd cd_60 109 = some (.iload_n 3) by decide +kernel) rfl ?_
  exact jr_v jm_60 (show jw_cd cd_60 110 = some (.ireturn) by decide +kernel) rfl
