/-! ===== close: the inner loop (printed by program: gen54.py) ===== -/
theorem mO_jn {τ τ' : mS} {L z w : Int} {A B D : Int → Prop} {x : Option vT} (hj : jnF τ τ' L z D) (hA : ¬ A L) (hB : ¬ B z) (hD : ∀ x, D x → ¬ B x) (h : mO τ A B w x) : mO τ' A B w x := by
  cases x with
  | none => exact h
  | some y => exact mV_jn hj hA hB hD h
theorem clo1_no {s : lT} {k : Int} (l : List lT) (h : ¬ (s.1 = k ∧ ¬ nulO s.2 = true)) : clo1 (s :: l) k = clo1 l k := by
  unfold clo1
  by_cases hk : s.1 = k
  · rw [List.filter_cons_of_pos (p := fun s : lT => decide (s.1 = k)) (a := s) (decide_eq_true hk), List.filterMap_cons]
    have hn : nnO s.2 = none := by
      have hz : nulO s.2 = true := Classical.not_not.mp fun z => h ⟨hk, z⟩
      obtain ⟨a, x⟩ := s
      cases x with
      | none => rfl
      | some v =>
        have h0 : v.1.1 = 0 := of_decide_eq_true hz
        show (if v.1.1 = 0 then none else some v) = none
        rw [if_pos h0]
    rw [hn]
  · rw [List.filter_cons_of_neg (p := fun s : lT => decide (s.1 = k)) (a := s) (fun z => hk (of_decide_eq_true z))]
theorem clo1_yes {a k : Int} {v : vT} (l : List lT) (h : a = k) (hn : ¬ nulO (some v) = true) : clo1 ((a, some v) :: l) k = v :: clo1 l k := by
  unfold clo1
  rw [List.filter_cons_of_pos (p := fun s : lT => decide (s.1 = k)) (a := (a, some v)) (decide_eq_true h), List.filterMap_cons]
  have h0 : ¬ v.1.1 = 0 := fun z => hn (decide_eq_true z)
  have hn : nnO (some v) = some v := if_neg h0
  rw [hn]
theorem nulO_none : nulO none = true := rfl
theorem jn_cl_in {β : Bool} {d : Nat} {h : jx_H} (hl : 49 ≤ h.length) {A B : Int → Prop} {L z0 k sp sl : Int} (hL : 0 ≤ L ∧ L < 1740) (hA : mIx A) (hz0 : 680 ≤ z0) (hBz : ∀ x, B x → x < z0) (hk : 0 ≤ k ∧ k ≤ 400) (hsl : sl ≤ 400) : ∀ (rest : List lT) (l1 : List vT) (j cc bh : Int) (σ : mS) (D : Int → Prop), lb σ L (fl l1) bh A B D → (∀ x, D x → In z0 (170 * 4 + cc) x) → tpR σ A B j rest → (∀ t ∈ rest, vokO t.2) → (∀ t ∈ rest, 0 ≤ t.1 ∧ t.1 ≤ 400) → j + rest.length = sl → 0 ≤ j → σ 36 0 = sl → σ 12 4 = cc → 0 ≤ cc → z0 ≤ 170 * 4 + cc → 170 * 4 + cc + (clo1 rest k).length ≤ 1740 →
    ∃ (τ : mS) (bh' : Int) (D' : Int → Prop), (∀ res, jx_r (jz β) jw_M (d + 1) 262 (138, [some (.ref 15), some (.int (Int32.ofInt (sp))), some (.int (Int32.ofInt (k))), some (.int (Int32.ofInt (L))), some (.int (Int32.ofInt (bh'))), some (.int (Int32.ofInt (sl)))], [], ml_mk h τ) res → jx_r (jz β) jw_M (d + 1) 262 (80, [some (.ref 15), some (.int (Int32.ofInt (sp))), some (.int (Int32.ofInt (k))), some (.int (Int32.ofInt (L))), some (.int (Int32.ofInt (bh))), some (.int (Int32.ofInt (j)))], [], ml_mk h σ) res) ∧ lb τ L (fl (l1 ++ clo1 rest k)) bh' A B D' ∧ (∀ x, D' x → In z0 (170 * 4 + cc + (clo1 rest k).length) x) ∧ τ 12 4 = cc + (clo1 rest k).length ∧ (∀ f v, 3 ≤ f → f ≤ 7 → ¬ v = L → τ f v = σ f v) ∧ (∀ f x, 8 ≤ f → f ≤ 10 → x < z0 → τ f x = σ f x) ∧ (∀ f, f ∉ [6, 7, 8, 9, 10, 12] → τ f = σ f) ∧ (∀ v, ¬ v = 4 → τ 12 v = σ 12 v)
  | [], l1, j, cc, bh, σ, D, hb, hD, hT, hv, hfr, hj, hj0, e36, e12, hc0, hzc, hr => by
    have hj : j = sl := by simp at hj; exact hj
    subst hj
    have hz : clo1 [] k = [] := rfl
    rw [hz]
    refine ⟨σ, bh, D, fun res kk => ?_, by rw [List.append_nil]; exact hb, fun x hx => by have := hD x hx; simpa using this, by rw [e12]; simp, fun _ _ _ _ _ => rfl, fun _ _ _ _ _ => rfl, fun _ _ => rfl, fun _ _ => rfl⟩
    refine jr_1 jm_262 (show jw_cd cd_262 80 = some (.iload 5) by decide +kernel) rfl ?_
    refine jr_1 jm_262 (show jw_cd cd_262 82 = some (.aload_n 0) by decide +kernel) rfl ?_
    refine jr_1 jm_262 (show jw_cd cd_262 83 = some (.getfield 264) by decide +kernel) (mg_i hl (e := j) e36 (show jw_fld 34 264 16 = some 36 by decide +kernel) (by decide) (by decide)) ?_
    refine jr_1 jm_262 (show jw_cd cd_262 86 = some (.if_icmp .ge 52) by decide +kernel) (mb_t (q := .ge) (a := j) (b := j) (t := 138) (by show j ≤ j; omega) ⟨by omega, by omega⟩ ⟨by omega, by omega⟩ (by decide) (by decide)) ?_
    exact kk
  | (f0, x) :: rest, l1, j, cc, bh, σ, D, hb, hD, hT, hv, hfr, hj, hj0, e36, e12, hc0, hzc, hr => by
    obtain ⟨L0, L1⟩ := id hL
    obtain ⟨k0, k4⟩ := id hk
    have hlen : ((((f0, x) :: rest).length : Nat) : Int) = rest.length + 1 := by simp
    rw [hlen] at hj
    have e38 : σ 38 j = f0 := hT.1.1
    obtain ⟨y, hy⟩ : ∃ y, y = σ 37 j := ⟨_, rfl⟩
    have e37 : σ 37 j = y := hy.symm
    have hok : vokO x := hv (f0, x) (List.mem_cons_self ..)
    have hf0 : 0 ≤ f0 ∧ f0 ≤ 400 := hfr (f0, x) (List.mem_cons_self ..)
    have hT : (σ 38 j = f0 ∧ mO σ A B (σ 37 j) x) ∧ tpR σ A B (j + 1) rest := hT
    rw [e37] at hT
    by_cases hno : ¬ (f0 = k ∧ ¬ nulO x = true)
    · rw [clo1_no (s := (f0, x)) rest hno] at hr ⊢
      obtain ⟨τ, bh', D', r1, r2⟩ := jn_cl_in (β := β) (d := d) (sp := sp) hl hL hA hz0 hBz hk hsl rest l1 (j + 1) cc bh σ D hb hD hT.2 (fun t ht => hv t (List.mem_cons_of_mem _ ht)) (fun t ht => hfr t (List.mem_cons_of_mem _ ht)) (by omega) (by omega) e36 e12 hc0 hzc hr
      refine ⟨τ, bh', D', fun res kk => ?_, r2⟩
      have r1 := r1 res kk
      by_cases hfk : f0 = k
      · have hnu : nulO x = true := Classical.not_not.mp fun z => hno ⟨hfk, z⟩
        refine jr_1 jm_262 (show jw_cd cd_262 80 = some (.iload 5) by decide +kernel) rfl ?_
        refine jr_1 jm_262 (show jw_cd cd_262 82 = some (.aload_n 0) by decide +kernel) rfl ?_
        refine jr_1 jm_262 (show jw_cd cd_262 83 = some (.getfield 264) by decide +kernel) (mg_i hl (e := sl) e36 (show jw_fld 34 264 16 = some 36 by decide +kernel) (by decide) (by decide)) ?_
        refine jr_1 jm_262 (show jw_cd cd_262 86 = some (.if_icmp .ge 52) by decide +kernel) (mb_f (q := .ge) (a := j) (b := sl) (by show ¬ (sl ≤ j); omega) ⟨by omega, by omega⟩ ⟨by omega, by omega⟩ (by decide)) ?_
        refine jr_1 jm_262 (show jw_cd cd_262 89 = some (.aload_n 0) by decide +kernel) rfl ?_
        refine jr_1 jm_262 (show jw_cd cd_262 90 = some (.getfield 92) by decide +kernel) (mg_a hl (a := 43) (show jw_fld 34 92 16 = some 38 by decide +kernel) (by decide) (by decide)) ?_
        refine jr_1 jm_262 (show jw_cd cd_262 93 = some (.iload 5) by decide +kernel) rfl ?_
        refine jr_1 jm_262 (show jw_cd cd_262 95 = some (.iaload) by decide +kernel) (ma_i hl (i := j) (e := f0) 38 (by omega) (by show _ < ((400 : Nat) : Int); omega) e38 (by decide) (by decide) (by decide)) ?_
        refine jr_1 jm_262 (show jw_cd cd_262 96 = some (.iload_n 2) by decide +kernel) rfl ?_
        refine jr_1 jm_262 (show jw_cd cd_262 97 = some (.if_icmp .ne 35) by decide +kernel) (mb_f (q := .ne) (a := f0) (b := k) (by show ¬ (¬ (f0 = k)); omega) ⟨by omega, by omega⟩ ⟨by omega, by omega⟩ (by decide)) ?_
        refine jr_1 jm_262 (show jw_cd cd_262 100 = some (.aload_n 0) by decide +kernel) rfl ?_
        refine jr_1 jm_262 (show jw_cd cd_262 101 = some (.aload_n 0) by decide +kernel) rfl ?_
        refine jr_1 jm_262 (show jw_cd cd_262 102 = some (.getfield 89) by decide +kernel) (mg_a hl (a := 42) (show jw_fld 34 89 16 = some 37 by decide +kernel) (by decide) (by decide)) ?_
        refine jr_1 jm_262 (show jw_cd cd_262 105 = some (.iload 5) by decide +kernel) rfl ?_
        refine jr_1 jm_262 (show jw_cd cd_262 107 = some (.iaload) by decide +kernel) (ma_i hl (i := j) (e := y) 37 (by omega) (by show _ < ((400 : Nat) : Int); omega) e37 (by decide) (by decide) (by decide)) ?_
        refine jr_c jm_262 (show jw_cd cd_262 108 = some (.invokevirtual 270) by decide +kernel) (mc_v hl (n := 1) (m2 := 263) (bs := [.int (Int32.ofInt (y))]) (r := []) (show jw_find jw_cvT 34 270 = some (1, [(16, 263)]) by decide +kernel) (by decide) rfl rfl rfl) jm_263 ⟨Nat.le_of_ble_eq_true rfl, by decide⟩ (jn_isN1 hl hA hT.1.2 hok hnu) ?_
        refine jr_1 jm_262 (show jw_cd cd_262 111 = some (.ifCond .ne 21) by decide +kernel) (mz_t (q := .ne) (a := 1) (t := 132) (by show ¬ (1 = 0); omega) ⟨by omega, by omega⟩ (by decide) (by decide)) ?_
        refine jr_1 jm_262 (F2 := (135, [some (.ref 15), some (.int (Int32.ofInt (sp))), some (.int (Int32.ofInt (k))), some (.int (Int32.ofInt (L))), some (.int (Int32.ofInt (bh))), some (.int (Int32.ofInt (j + 1)))], [], ml_mk h σ)) (show jw_cd cd_262 132 = some (.iinc 5 1) by decide +kernel) (mt_inc (a := j) (c := j + 1) rfl (by omega) rfl) ?_
        refine jr_1 jm_262 (show jw_cd cd_262 135 = some (.goto (-55)) by decide +kernel) (ju_go (t := 80) (by decide)) ?_
        exact r1
      · skip
        refine jr_1 jm_262 (show jw_cd cd_262 80 = some (.iload 5) by decide +kernel) rfl ?_
        refine jr_1 jm_262 (show jw_cd cd_262 82 = some (.aload_n 0) by decide +kernel) rfl ?_
        refine jr_1 jm_262 (show jw_cd cd_262 83 = some (.getfield 264) by decide +kernel) (mg_i hl (e := sl) e36 (show jw_fld 34 264 16 = some 36 by decide +kernel) (by decide) (by decide)) ?_
        refine jr_1 jm_262 (show jw_cd cd_262 86 = some (.if_icmp .ge 52) by decide +kernel) (mb_f (q := .ge) (a := j) (b := sl) (by show ¬ (sl ≤ j); omega) ⟨by omega, by omega⟩ ⟨by omega, by omega⟩ (by decide)) ?_
        refine jr_1 jm_262 (show jw_cd cd_262 89 = some (.aload_n 0) by decide +kernel) rfl ?_
        refine jr_1 jm_262 (show jw_cd cd_262 90 = some (.getfield 92) by decide +kernel) (mg_a hl (a := 43) (show jw_fld 34 92 16 = some 38 by decide +kernel) (by decide) (by decide)) ?_
        refine jr_1 jm_262 (show jw_cd cd_262 93 = some (.iload 5) by decide +kernel) rfl ?_
        refine jr_1 jm_262 (show jw_cd cd_262 95 = some (.iaload) by decide +kernel) (ma_i hl (i := j) (e := f0) 38 (by omega) (by show _ < ((400 : Nat) : Int); omega) e38 (by decide) (by decide) (by decide)) ?_
        refine jr_1 jm_262 (show jw_cd cd_262 96 = some (.iload_n 2) by decide +kernel) rfl ?_
        refine jr_1 jm_262 (show jw_cd cd_262 97 = some (.if_icmp .ne 35) by decide +kernel) (mb_t (q := .ne) (a := f0) (b := k) (t := 132) (by show ¬ (f0 = k); omega) ⟨by omega, by omega⟩ ⟨by omega, by omega⟩ (by decide) (by decide)) ?_
        refine jr_1 jm_262 (F2 := (135, [some (.ref 15), some (.int (Int32.ofInt (sp))), some (.int (Int32.ofInt (k))), some (.int (Int32.ofInt (L))), some (.int (Int32.ofInt (bh))), some (.int (Int32.ofInt (j + 1)))], [], ml_mk h σ)) (show jw_cd cd_262 132 = some (.iinc 5 1) by decide +kernel) (mt_inc (a := j) (c := j + 1) rfl (by omega) rfl) ?_
        refine jr_1 jm_262 (show jw_cd cd_262 135 = some (.goto (-55)) by decide +kernel) (ju_go (t := 80) (by decide)) ?_
        exact r1
    · obtain ⟨hfk, hnu⟩ := Classical.not_not.mp hno
      cases x with
      | none => exact absurd nulO_none hnu
      | some vv =>
        obtain ⟨i, c⟩ := vv
        rw [clo1_yes (v := (i, c)) rest hfk hnu] at hr ⊢
        have hcl : (((i, c) :: clo1 rest k).length : Int) = (clo1 rest k).length + 1 := by simp
        rw [hcl] at hr
        obtain ⟨lf, li, k1, k2, k3⟩ := lb_lk hb
        have hzB : ¬ B (170 * 4 + cc) := fun hx => by have := hBz _ hx; omega
        have hzD : ¬ D (170 * 4 + cc) := fun hx => by have := (hD _ hx).2; omega
        have hAL : ¬ A L := hb.2.2.2.2.1
        have hDB := hb.2.2.2.1
        obtain ⟨b1, b2, b3⟩ := lb_join hb (w := y) (i := i) (c := c) hT.1.2 k2 k3 (z := 170 * 4 + cc) (by rw [e12]) ⟨by omega, by omega⟩ hzB hzD
        obtain ⟨j1, j2, j3, j4, j5⟩ := id b2
        have hyr := hA y hT.1.2.1
        obtain ⟨τ1, hτ1⟩ : ∃ τ1, τ1 = mJoin σ 4 L lf li y 0 := ⟨_, rfl⟩
        rw [← hτ1] at b1 b2 b3 j1 j2 j3 j4 j5
        obtain ⟨τ, bh', D', r1, r2, r3, r4, r5, r6, r7, r8⟩ := jn_cl_in (β := β) (d := d) (sp := sp) hl hL hA hz0 hBz hk hsl rest (l1 ++ [(i, c)]) (j + 1) (cc + 1) (170 * 4 + cc) τ1 (fun x => D x ∨ x = 170 * 4 + cc) (by rw [fl_snoc]; exact b1) (fun x hx => by
          rcases hx with hx | rfl
          · exact ⟨(hD x hx).1, by have := (hD x hx).2; omega⟩
          · exact ⟨by omega, by omega⟩) (tpR_fr (fun w x hx => mO_jn b2 hAL hzB hDB hx) rest (j + 1) (fun t _ _ => ⟨by rw [j4 37 (by decide)], by rw [j4 38 (by decide)]⟩) hT.2) (fun t ht => hv t (List.mem_cons_of_mem _ ht)) (fun t ht => hfr t (List.mem_cons_of_mem _ ht)) (by omega) (by omega) (by rw [j4 36 (by decide)]; exact e36) (by rw [b3, e12]) (by omega) (by omega) (by omega)
        refine ⟨τ, bh', D', fun res kk => ?_, by rw [List.append_assoc] at r2; exact r2, fun x hx => ⟨(r3 x hx).1, by have := (r3 x hx).2; omega⟩, by rw [r4, hcl]; omega, fun f v f1 f2 hv => (r5 f v f1 f2 hv).trans (j1 f v f1 f2 hv), fun f x f1 f2 hx => (r6 f x f1 f2 hx).trans (j3 f x f1 f2 (by omega) (fun hd => by have := (hD x hd).1; omega)), fun f hf => (r7 f hf).trans (j4 f hf), fun v hv => (r8 v hv).trans (j5 v hv)⟩
        have r1 := r1 res kk
        refine jr_1 jm_262 (show jw_cd cd_262 80 = some (.iload 5) by decide +kernel) rfl ?_
        refine jr_1 jm_262 (show jw_cd cd_262 82 = some (.aload_n 0) by decide +kernel) rfl ?_
        refine jr_1 jm_262 (show jw_cd cd_262 83 = some (.getfield 264) by decide +kernel) (mg_i hl (e := sl) e36 (show jw_fld 34 264 16 = some 36 by decide +kernel) (by decide) (by decide)) ?_
        refine jr_1 jm_262 (show jw_cd cd_262 86 = some (.if_icmp .ge 52) by decide +kernel) (mb_f (q := .ge) (a := j) (b := sl) (by show ¬ (sl ≤ j); omega) ⟨by omega, by omega⟩ ⟨by omega, by omega⟩ (by decide)) ?_
        refine jr_1 jm_262 (show jw_cd cd_262 89 = some (.aload_n 0) by decide +kernel) rfl ?_
        refine jr_1 jm_262 (show jw_cd cd_262 90 = some (.getfield 92) by decide +kernel) (mg_a hl (a := 43) (show jw_fld 34 92 16 = some 38 by decide +kernel) (by decide) (by decide)) ?_
        refine jr_1 jm_262 (show jw_cd cd_262 93 = some (.iload 5) by decide +kernel) rfl ?_
        refine jr_1 jm_262 (show jw_cd cd_262 95 = some (.iaload) by decide +kernel) (ma_i hl (i := j) (e := f0) 38 (by omega) (by show _ < ((400 : Nat) : Int); omega) e38 (by decide) (by decide) (by decide)) ?_
        refine jr_1 jm_262 (show jw_cd cd_262 96 = some (.iload_n 2) by decide +kernel) rfl ?_
        refine jr_1 jm_262 (show jw_cd cd_262 97 = some (.if_icmp .ne 35) by decide +kernel) (mb_f (q := .ne) (a := f0) (b := k) (by show ¬ (¬ (f0 = k)); omega) ⟨by omega, by omega⟩ ⟨by omega, by omega⟩ (by decide)) ?_
        refine jr_1 jm_262 (show jw_cd cd_262 100 = some (.aload_n 0) by decide +kernel) rfl ?_
        refine jr_1 jm_262 (show jw_cd cd_262 101 = some (.aload_n 0) by decide +kernel) rfl ?_
        refine jr_1 jm_262 (show jw_cd cd_262 102 = some (.getfield 89) by decide +kernel) (mg_a hl (a := 42) (show jw_fld 34 89 16 = some 37 by decide +kernel) (by decide) (by decide)) ?_
        refine jr_1 jm_262 (show jw_cd cd_262 105 = some (.iload 5) by decide +kernel) rfl ?_
        refine jr_1 jm_262 (show jw_cd cd_262 107 = some (.iaload) by decide +kernel) (ma_i hl (i := j) (e := y) 37 (by omega) (by show _ < ((400 : Nat) : Int); omega) e37 (by decide) (by decide) (by decide)) ?_
        refine jr_c jm_262 (show jw_cd cd_262 108 = some (.invokevirtual 270) by decide +kernel) (mc_v hl (n := 1) (m2 := 263) (bs := [.int (Int32.ofInt (y))]) (r := []) (show jw_find jw_cvT 34 270 = some (1, [(16, 263)]) by decide +kernel) (by decide) rfl rfl rfl) jm_263 ⟨Nat.le_of_ble_eq_true rfl, by decide⟩ (jn_isN0 hl hA hT.1.2 hok hnu) ?_
        refine jr_1 jm_262 (show jw_cd cd_262 111 = some (.ifCond .ne 21) by decide +kernel) (mz_f (q := .ne) (a := 0) (by show ¬ (¬ (0 = 0)); omega) ⟨by omega, by omega⟩ (by decide)) ?_
        refine jr_1 jm_262 (show jw_cd cd_262 114 = some (.aload_n 0) by decide +kernel) rfl ?_
        refine jr_1 jm_262 (show jw_cd cd_262 115 = some (.iconst 4) by decide +kernel) rfl ?_
        refine jr_1 jm_262 (show jw_cd cd_262 116 = some (.iload_n 3) by decide +kernel) rfl ?_
        refine jr_1 jm_262 (show jw_cd cd_262 117 = some (.iload 4) by decide +kernel) rfl ?_
        refine jr_1 jm_262 (show jw_cd cd_262 119 = some (.aload_n 0) by decide +kernel) rfl ?_
        refine jr_1 jm_262 (show jw_cd cd_262 120 = some (.getfield 89) by decide +kernel) (mg_a hl (a := 42) (show jw_fld 34 89 16 = some 37 by decide +kernel) (by decide) (by decide)) ?_
        refine jr_1 jm_262 (show jw_cd cd_262 123 = some (.iload 5) by decide +kernel) rfl ?_
        refine jr_1 jm_262 (show jw_cd cd_262 125 = some (.iaload) by decide +kernel) (ma_i hl (i := j) (e := y) 37 (by omega) (by show _ < ((400 : Nat) : Int); omega) e37 (by decide) (by decide) (by decide)) ?_
        refine jr_1 jm_262 (F2 := (127, [some (.ref 15), some (.int (Int32.ofInt (sp))), some (.int (Int32.ofInt (k))), some (.int (Int32.ofInt (L))), some (.int (Int32.ofInt (bh))), some (.int (Int32.ofInt (j)))], [.long (Int64.ofInt (0)), .int (Int32.ofInt (y)), .int (Int32.ofInt (bh)), .int (Int32.ofInt (L)), .int (Int32.ofInt (4)), .ref 15], ml_mk h σ)) (show jw_cd cd_262 126 = some (.lconst 0) by decide +kernel) rfl ?_
        refine jr_c jm_262 (show jw_cd cd_262 127 = some (.invokevirtual 128) by decide +kernel) (mc_v hl (n := 5) (m2 := 229) (bs := [.int (Int32.ofInt (4)), .int (Int32.ofInt (L)), .int (Int32.ofInt (bh)), .int (Int32.ofInt (y)), .long (Int64.ofInt (0))]) (r := []) (show jw_find jw_cvT 34 128 = some (5, [(16, 229)]) by decide +kernel) (by decide) rfl rfl rfl) jm_229 ⟨Nat.le_of_ble_eq_true rfl, by decide⟩ (jn_joinM hl ⟨by decide, by decide⟩ (m := cc) e12 hc0 (by omega) ⟨by omega, by omega⟩ k1) ?_
        refine jr_1 jm_262 (F2 := (132, [some (.ref 15), some (.int (Int32.ofInt (sp))), some (.int (Int32.ofInt (k))), some (.int (Int32.ofInt (L))), some (.int (Int32.ofInt (170 * 4 + cc))), some (.int (Int32.ofInt (j)))], [], ml_mk h (mJoin σ 4 L lf li y 0))) (show jw_cd cd_262 130 = some (.istore 4) by decide +kernel) rfl ?_
        refine jr_1 jm_262 (F2 := (135, [some (.ref 15), some (.int (Int32.ofInt (sp))), some (.int (Int32.ofInt (k))), some (.int (Int32.ofInt (L))), some (.int (Int32.ofInt (170 * 4 + cc))), some (.int (Int32.ofInt (j + 1)))], [], ml_mk h (mJoin σ 4 L lf li y 0))) (show jw_cd cd_262 132 = some (.iinc 5 1) by decide +kernel) (mt_inc (a := j) (c := j + 1) rfl (by omega) rfl) ?_
        refine jr_1 jm_262 (show jw_cd cd_262 135 = some (.goto (-55)) by decide +kernel) (ju_go (t := 80) (by decide)) ?_
        rw [← hτ1]
        exact r1
