/-! ===== gathered, flatten (printed by program: gen57.py) ===== -/
def gth (top : List lT) : List vT := top.filterMap fun s => nnO s.2
theorem gth_no {s : lT} (l : List lT) (h : nulO s.2 = true) : gth (s :: l) = gth l := by
  unfold gth
  rw [List.filterMap_cons]
  obtain ⟨a, x⟩ := s
  have hn : nnO x = none := by
    cases x with
    | none => rfl
    | some v =>
      have h0 : v.1.1 = 0 := of_decide_eq_true h
      show (if v.1.1 = 0 then none else some v) = none
      rw [if_pos h0]
  simp only [hn]
theorem gth_yes {a : Int} {v : vT} (l : List lT) (hn : ¬ nulO (some v) = true) : gth ((a, some v) :: l) = v :: gth l := by
  unfold gth
  rw [List.filterMap_cons]
  have h0 : ¬ v.1.1 = 0 := fun z => hn (decide_eq_true z)
  have hn : nnO (some v) = some v := if_neg h0
  simp only [hn]
theorem gth_ok {top : List lT} (hv : ∀ t ∈ top, vokO t.2) : ∀ v ∈ gth top, vok v := fun v h => by
  unfold gth at h
  obtain ⟨t, ht, hn⟩ := List.mem_filterMap.mp h
  exact hv t ht v.1 v.2 (nnO_some hn)
theorem gth_le (top : List lT) : (gth top).length ≤ top.length := List.length_filterMap_le ..
theorem jn_ga_in {β : Bool} {d : Nat} {h : jx_H} (hl : 49 ≤ h.length) {A B : Int → Prop} {L z0 sl : Int} (hL : 0 ≤ L ∧ L < 1740) (hA : mIx A) (hz0 : 680 ≤ z0) (hBz : ∀ x, B x → x < z0) (hsl : sl ≤ 400) : ∀ (rest : List lT) (l1 : List vT) (j cc bh : Int) (σ : mS) (D : Int → Prop), lb σ L (fl l1) bh A B D → (∀ x, D x → In z0 (170 * 4 + cc) x) → tpR σ A B j rest → (∀ t ∈ rest, vokO t.2) → j + rest.length = sl → 0 ≤ j → σ 36 0 = sl → σ 12 4 = cc → 0 ≤ cc → z0 ≤ 170 * 4 + cc → 170 * 4 + cc + (gth rest).length ≤ 1740 →
    ∃ (τ : mS) (bh' : Int) (D' : Int → Prop), jx_r (jz β) jw_M (d + 1) 264 (13, [some (.ref 15), some (.int (Int32.ofInt (L))), some (.int (Int32.ofInt (bh))), some (.int (Int32.ofInt (j)))], [], ml_mk h σ) (ml_mk h (τ), .inl (some (.int (Int32.ofInt (L))))) ∧ lb τ L (fl (l1 ++ gth rest)) bh' A B D' ∧ (∀ x, D' x → In z0 (170 * 4 + cc + (gth rest).length) x) ∧ τ 12 4 = cc + (gth rest).length ∧ (∀ f v, 3 ≤ f → f ≤ 7 → ¬ v = L → τ f v = σ f v) ∧ (∀ f x, 8 ≤ f → f ≤ 10 → x < z0 → τ f x = σ f x) ∧ (∀ f, f ∉ [6, 7, 8, 9, 10, 12] → τ f = σ f) ∧ (∀ v, ¬ v = 4 → τ 12 v = σ 12 v)
  | [], l1, j, cc, bh, σ, D, hb, hD, hT, hv, hj, hj0, e36, e12, hc0, hzc, hr => by
    have hj : j = sl := by simp at hj; exact hj
    have hz : gth [] = [] := rfl
    rw [hz]
    refine ⟨σ, bh, D, ?_, by rw [List.append_nil]; exact hb, fun x hx => by have := hD x hx; simpa using this, by rw [e12]; simp, fun _ _ _ _ _ => rfl, fun _ _ _ _ _ => rfl, fun _ _ => rfl, fun _ _ => rfl⟩
    refine jr_1 jm_264 (show jw_cd cd_264 13 = some (.iload_n 3) by decide +kernel) rfl ?_
    refine jr_1 jm_264 (show jw_cd cd_264 14 = some (.aload_n 0) by decide +kernel) rfl ?_
    refine jr_1 jm_264 (show jw_cd cd_264 15 = some (.getfield 264) by decide +kernel) (mg_i hl (e := sl) e36 (show jw_fld 34 264 16 = some 36 by decide +kernel) (by decide) (by decide)) ?_
    refine jr_1 jm_264 (show jw_cd cd_264 18 = some (.if_icmp .ge 37) by decide +kernel) (mb_t (q := .ge) (a := j) (b := sl) (t := 55) (by show sl ≤ j; omega) ⟨by omega, by omega⟩ ⟨by omega, by omega⟩ (by decide) (by decide)) ?_
    refine jr_1 jm_264 (show jw_cd cd_264 55 = some (.iload_n 1) by decide +kernel) rfl ?_
    exact jr_v jm_264 (show jw_cd cd_264 56 = some (.ireturn) by decide +kernel) rfl
  | (f0, x) :: rest, l1, j, cc, bh, σ, D, hb, hD, hT, hv, hj, hj0, e36, e12, hc0, hzc, hr => by
    obtain ⟨L0, L1⟩ := id hL
    have hlen : ((((f0, x) :: rest).length : Nat) : Int) = rest.length + 1 := by simp
    rw [hlen] at hj
    obtain ⟨y, hy⟩ : ∃ y, y = σ 37 j := ⟨_, rfl⟩
    have e37 : σ 37 j = y := hy.symm
    have hok : vokO x := hv (f0, x) (List.mem_cons_self ..)
    have hT : (σ 38 j = f0 ∧ mO σ A B (σ 37 j) x) ∧ tpR σ A B (j + 1) rest := hT
    rw [e37] at hT
    by_cases hnu : nulO x = true
    · rw [gth_no (s := (f0, x)) rest hnu] at hr ⊢
      obtain ⟨τ, bh', D', r1, r2⟩ := jn_ga_in (β := β) (d := d) hl hL hA hz0 hBz hsl rest l1 (j + 1) cc bh σ D hb hD hT.2 (fun t ht => hv t (List.mem_cons_of_mem _ ht)) (by omega) (by omega) e36 e12 hc0 hzc hr
      refine ⟨τ, bh', D', ?_, r2⟩
      refine jr_1 jm_264 (show jw_cd cd_264 13 = some (.iload_n 3) by decide +kernel) rfl ?_
      refine jr_1 jm_264 (show jw_cd cd_264 14 = some (.aload_n 0) by decide +kernel) rfl ?_
      refine jr_1 jm_264 (show jw_cd cd_264 15 = some (.getfield 264) by decide +kernel) (mg_i hl (e := sl) e36 (show jw_fld 34 264 16 = some 36 by decide +kernel) (by decide) (by decide)) ?_
      refine jr_1 jm_264 (show jw_cd cd_264 18 = some (.if_icmp .ge 37) by decide +kernel) (mb_f (q := .ge) (a := j) (b := sl) (by show ¬ (sl ≤ j); omega) ⟨by omega, by omega⟩ ⟨by omega, by omega⟩ (by decide)) ?_
      refine jr_1 jm_264 (show jw_cd cd_264 21 = some (.aload_n 0) by decide +kernel) rfl ?_
      refine jr_1 jm_264 (show jw_cd cd_264 22 = some (.aload_n 0) by decide +kernel) rfl ?_
      refine jr_1 jm_264 (show jw_cd cd_264 23 = some (.getfield 89) by decide +kernel) (mg_a hl (a := 42) (show jw_fld 34 89 16 = some 37 by decide +kernel) (by decide) (by decide)) ?_
      refine jr_1 jm_264 (show jw_cd cd_264 26 = some (.iload_n 3) by decide +kernel) rfl ?_
      refine jr_1 jm_264 (show jw_cd cd_264 27 = some (.iaload) by decide +kernel) (ma_i hl (i := j) (e := y) 37 (by omega) (by show _ < ((400 : Nat) : Int); omega) e37 (by decide) (by decide) (by decide)) ?_
      refine jr_c jm_264 (show jw_cd cd_264 28 = some (.invokevirtual 270) by decide +kernel) (mc_v hl (n := 1) (m2 := 263) (bs := [.int (Int32.ofInt (y))]) (r := []) (show jw_find jw_cvT 34 270 = some (1, [(16, 263)]) by decide +kernel) (by decide) rfl rfl rfl) jm_263 ⟨Nat.le_of_ble_eq_true rfl, by decide⟩ (jn_isN1 hl hA hT.1.2 hok hnu) ?_
      refine jr_1 jm_264 (show jw_cd cd_264 31 = some (.ifCond .ne 18) by decide +kernel) (mz_t (q := .ne) (a := 1) (t := 49) (by show ¬ (1 = 0); omega) ⟨by omega, by omega⟩ (by decide) (by decide)) ?_
      refine jr_1 jm_264 (F2 := (52, [some (.ref 15), some (.int (Int32.ofInt (L))), some (.int (Int32.ofInt (bh))), some (.int (Int32.ofInt (j + 1)))], [], ml_mk h σ)) (show jw_cd cd_264 49 = some (.iinc 3 1) by decide +kernel) (mt_inc (a := j) (c := j + 1) rfl (by omega) rfl) ?_
      refine jr_1 jm_264 (show jw_cd cd_264 52 = some (.goto (-39)) by decide +kernel) (ju_go (t := 13) (by decide)) ?_
      exact r1
    · cases x with
      | none => exact absurd nulO_none hnu
      | some vv =>
        obtain ⟨i, c⟩ := vv
        rw [gth_yes (v := (i, c)) rest hnu] at hr ⊢
        have hcl : (((i, c) :: gth rest).length : Int) = (gth rest).length + 1 := by simp
        rw [hcl] at hr
        obtain ⟨lf, li, k1, k2, k3⟩ := lb_lk hb
        have hzB : ¬ B (170 * 4 + cc) := fun hx => by have := hBz _ hx; omega
        have hzD : ¬ D (170 * 4 + cc) := fun hx => by have := (hD _ hx).2; omega
        have hAL : ¬ A L := hb.2.2.2.2.1
        have hDB := hb.2.2.2.1
        obtain ⟨b1, b2, b3⟩ := lb_join hb (w := y) (i := i) (c := c) hT.1.2 k2 k3 (z := 170 * 4 + cc) (by rw [e12]) ⟨by omega, by omega⟩ hzB hzD
        obtain ⟨j1, j2, j3, j4, j5⟩ := id b2
        have hyr := hA y hT.1.2.1
        obtain ⟨τ1, hτ1⟩ : ∃ τ1, τ1 = mJoin σ 4 L lf li y 0 := ⟨_, rfl⟩
        rw [← hτ1] at b1 b2 b3 j1 j2 j3 j4 j5
        obtain ⟨τ, bh', D', r1, r2, r3, r4, r5, r6, r7, r8⟩ := jn_ga_in (β := β) (d := d) hl hL hA hz0 hBz hsl rest (l1 ++ [(i, c)]) (j + 1) (cc + 1) (170 * 4 + cc) τ1 (fun x => D x ∨ x = 170 * 4 + cc) (by rw [fl_snoc]; exact b1) (fun x hx => by
          rcases hx with hx | rfl
          · exact ⟨(hD x hx).1, by have := (hD x hx).2; omega⟩
          · exact ⟨by omega, by omega⟩) (tpR_fr (fun w x hx => mO_jn b2 hAL hzB hDB hx) rest (j + 1) (fun t _ _ => ⟨by rw [j4 37 (by decide)], by rw [j4 38 (by decide)]⟩) hT.2) (fun t ht => hv t (List.mem_cons_of_mem _ ht)) (by omega) (by omega) (by rw [j4 36 (by decide)]; exact e36) (by rw [b3, e12]) (by omega) (by omega) (by omega)
        refine ⟨τ, bh', D', ?_, by rw [List.append_assoc] at r2; exact r2, fun x hx => ⟨(r3 x hx).1, by have := (r3 x hx).2; omega⟩, by rw [r4, hcl]; omega, fun f v f1 f2 hv => (r5 f v f1 f2 hv).trans (j1 f v f1 f2 hv), fun f x f1 f2 hx => (r6 f x f1 f2 hx).trans (j3 f x f1 f2 (by omega) (fun hd => by have := (hD x hd).1; omega)), fun f hf => (r7 f hf).trans (j4 f hf), fun v hv => (r8 v hv).trans (j5 v hv)⟩
        refine jr_1 jm_264 (show jw_cd cd_264 13 = some (.iload_n 3) by decide +kernel) rfl ?_
        refine jr_1 jm_264 (show jw_cd cd_264 14 = some (.aload_n 0) by decide +kernel) rfl ?_
        refine jr_1 jm_264 (show jw_cd cd_264 15 = some (.getfield 264) by decide +kernel) (mg_i hl (e := sl) e36 (show jw_fld 34 264 16 = some 36 by decide +kernel) (by decide) (by decide)) ?_
        refine jr_1 jm_264 (show jw_cd cd_264 18 = some (.if_icmp .ge 37) by decide +kernel) (mb_f (q := .ge) (a := j) (b := sl) (by show ¬ (sl ≤ j); omega) ⟨by omega, by omega⟩ ⟨by omega, by omega⟩ (by decide)) ?_
        refine jr_1 jm_264 (show jw_cd cd_264 21 = some (.aload_n 0) by decide +kernel) rfl ?_
        refine jr_1 jm_264 (show jw_cd cd_264 22 = some (.aload_n 0) by decide +kernel) rfl ?_
        refine jr_1 jm_264 (show jw_cd cd_264 23 = some (.getfield 89) by decide +kernel) (mg_a hl (a := 42) (show jw_fld 34 89 16 = some 37 by decide +kernel) (by decide) (by decide)) ?_
        refine jr_1 jm_264 (show jw_cd cd_264 26 = some (.iload_n 3) by decide +kernel) rfl ?_
        refine jr_1 jm_264 (show jw_cd cd_264 27 = some (.iaload) by decide +kernel) (ma_i hl (i := j) (e := y) 37 (by omega) (by show _ < ((400 : Nat) : Int); omega) e37 (by decide) (by decide) (by decide)) ?_
        refine jr_c jm_264 (show jw_cd cd_264 28 = some (.invokevirtual 270) by decide +kernel) (mc_v hl (n := 1) (m2 := 263) (bs := [.int (Int32.ofInt (y))]) (r := []) (show jw_find jw_cvT 34 270 = some (1, [(16, 263)]) by decide +kernel) (by decide) rfl rfl rfl) jm_263 ⟨Nat.le_of_ble_eq_true rfl, by decide⟩ (jn_isN0 hl hA hT.1.2 hok hnu) ?_
        refine jr_1 jm_264 (show jw_cd cd_264 31 = some (.ifCond .ne 18) by decide +kernel) (mz_f (q := .ne) (a := 0) (by show ¬ (¬ (0 = 0)); omega) ⟨by omega, by omega⟩ (by decide)) ?_
        refine jr_1 jm_264 (show jw_cd cd_264 34 = some (.aload_n 0) by decide +kernel) rfl ?_
        refine jr_1 jm_264 (show jw_cd cd_264 35 = some (.iconst 4) by decide +kernel) rfl ?_
        refine jr_1 jm_264 (show jw_cd cd_264 36 = some (.iload_n 1) by decide +kernel) rfl ?_
        refine jr_1 jm_264 (show jw_cd cd_264 37 = some (.iload_n 2) by decide +kernel) rfl ?_
        refine jr_1 jm_264 (show jw_cd cd_264 38 = some (.aload_n 0) by decide +kernel) rfl ?_
        refine jr_1 jm_264 (show jw_cd cd_264 39 = some (.getfield 89) by decide +kernel) (mg_a hl (a := 42) (show jw_fld 34 89 16 = some 37 by decide +kernel) (by decide) (by decide)) ?_
        refine jr_1 jm_264 (show jw_cd cd_264 42 = some (.iload_n 3) by decide +kernel) rfl ?_
        refine jr_1 jm_264 (show jw_cd cd_264 43 = some (.iaload) by decide +kernel) (ma_i hl (i := j) (e := y) 37 (by omega) (by show _ < ((400 : Nat) : Int); omega) e37 (by decide) (by decide) (by decide)) ?_
        refine jr_1 jm_264 (F2 := (45, [some (.ref 15), some (.int (Int32.ofInt (L))), some (.int (Int32.ofInt (bh))), some (.int (Int32.ofInt (j)))], [.long (Int64.ofInt (0)), .int (Int32.ofInt (y)), .int (Int32.ofInt (bh)), .int (Int32.ofInt (L)), .int (Int32.ofInt (4)), .ref 15], ml_mk h σ)) (show jw_cd cd_264 44 = some (.lconst 0) by decide +kernel) rfl ?_
        refine jr_c jm_264 (show jw_cd cd_264 45 = some (.invokevirtual 128) by decide +kernel) (mc_v hl (n := 5) (m2 := 229) (bs := [.int (Int32.ofInt (4)), .int (Int32.ofInt (L)), .int (Int32.ofInt (bh)), .int (Int32.ofInt (y)), .long (Int64.ofInt (0))]) (r := []) (show jw_find jw_cvT 34 128 = some (5, [(16, 229)]) by decide +kernel) (by decide) rfl rfl rfl) jm_229 ⟨Nat.le_of_ble_eq_true rfl, by decide⟩ (jn_joinM hl ⟨by decide, by decide⟩ (m := cc) e12 hc0 (by omega) ⟨by omega, by omega⟩ k1) ?_
        refine jr_1 jm_264 (F2 := (49, [some (.ref 15), some (.int (Int32.ofInt (L))), some (.int (Int32.ofInt (170 * 4 + cc))), some (.int (Int32.ofInt (j)))], [], ml_mk h (mJoin σ 4 L lf li y 0))) (show jw_cd cd_264 48 = some (.istore_n 2) by decide +kernel) rfl ?_
        refine jr_1 jm_264 (F2 := (52, [some (.ref 15), some (.int (Int32.ofInt (L))), some (.int (Int32.ofInt (170 * 4 + cc))), some (.int (Int32.ofInt (j + 1)))], [], ml_mk h (mJoin σ 4 L lf li y 0))) (show jw_cd cd_264 49 = some (.iinc 3 1) by decide +kernel) (mt_inc (a := j) (c := j + 1) rfl (by omega) rfl) ?_
        refine jr_1 jm_264 (show jw_cd cd_264 52 = some (.goto (-39)) by decide +kernel) (ju_go (t := 13) (by decide)) ?_
        rw [← hτ1]
        exact r1
theorem jn_gathered {β : Bool} {d : Nat} {h : jx_H} {σ : mS} (hl : 49 ≤ h.length) {A0 B0 : Int → Prop} (hA0 : ∀ v, A0 v → 0 ≤ v ∧ v < 680) (hB0 : ∀ v, B0 v → 0 ≤ v ∧ v < 680) {sl nn cc : Int} {top : List lT} (hT : tpR σ (zA A0 nn) (zA B0 cc) 0 top) (hv : ∀ t ∈ top, vokO t.2) (e36 : σ 36 0 = sl) (hsl : (top.length : Int) = sl) (hs4 : sl ≤ 400) (e11 : σ 11 4 = nn) (e12 : σ 12 4 = cc) (hn0 : 0 ≤ nn) (hc0 : 0 ≤ cc) (hn1 : 170 * 4 + nn < 1740) (hc1 : 170 * 4 + cc + top.length ≤ 1740) :
    ∃ (τ : mS) (cc' : Int), jx_r (jz β) jw_M (d + 1) 264 (0, [some (.ref 15), none, none, none], [], ml_mk h σ) (ml_mk h (τ), .inl (some (.int (Int32.ofInt (170 * 4 + nn))))) ∧ clG σ τ nn cc ∧ (∀ f, f ∉ [3, 4, 5, 6, 7, 8, 9, 10, 11, 12] → τ f = σ f) ∧ τ 11 4 = nn + 1 ∧ τ 12 4 = cc' ∧ (cc ≤ cc' ∧ cc' ≤ cc + top.length) ∧ mV τ (zA A0 (nn + 1)) (zA B0 cc') (170 * 4 + nn) (5, 0, [], []) (fl (gth top)) := by
  have hN : 170 * 4 + σ 11 4 = 170 * 4 + nn := by rw [e11]
  have hAr := zA_r hA0 hn0
  have hBr := zA_r hB0 hc0
  have hAL : ¬ zA A0 nn (170 * 4 + nn) := fun z => by have := (hAr _ z).2; omega
  have q := mNode_nw (k := 5) (x := 0) (t := 0) hN
  have q12 : mNode σ 4 5 0 0 12 = σ 12 := q.2.1 12 (by decide)
  have hle := gth_le top
  obtain ⟨τ1, bh', D', r1, r2, r3, r4, r5, r6, r7, r8⟩ := jn_ga_in (β := β) (d := d) (h := h) (A := zA A0 nn) (B := zA B0 cc) (L := 170 * 4 + nn) (z0 := 170 * 4 + cc) (sl := sl) hl ⟨by omega, hn1⟩ (zA_ix hA0 hn0 (by omega)) (by omega) (fun x hx => (hBr x hx).2) hs4 top [] 0 cc (-1) (mNode σ 4 5 0 0) (fun _ => False) (lb_new hAL ⟨by rw [mNode_3, hN, if_pos rfl], by rw [mNode_4, hN, if_pos rfl], by rw [mNode_5, hN, if_pos rfl]; rfl, by rw [mNode_7, hN, if_pos rfl]; rfl⟩ (by rw [mNode_6, hN, if_pos rfl])) (fun _ h => absurd h id) (tpR_fr (fun w x hx => mO_nw q (fun v hv => (hAr v hv).2) hx) top 0 (fun j _ _ => ⟨by rw [q.2.1 37 (by decide)], by rw [q.2.1 38 (by decide)]⟩) hT) hv (by omega) (by omega) (by rw [q.2.1 36 (by decide)]; exact e36) (by rw [q12]; exact e12) hc0 (by omega) (by omega)
  rw [List.nil_append] at r2
  have hq : ∀ f, f ∉ [3, 4, 5, 6, 7, 8, 9, 10, 11, 12] → τ1 f = σ f := fun f hf => by
    simp only [List.mem_cons, List.mem_nil_iff, or_false, not_or] at hf
    rw [r7 f (by simp; omega), q.2.1 f (by simp; omega)]
  refine ⟨τ1, cc + (gth top).length, ?_, ⟨fun f v f1 f2 hv => (r5 f v f1 f2 (by omega)).trans (q.1 f v f1 f2 hv), fun f x f1 f2 hx => (r6 f x f1 f2 hx).trans (by rw [q.2.1 f (by simp; omega)]), fun f hf => hq f (by simp only [List.mem_cons, List.mem_nil_iff, or_false, not_or] at hf ⊢; omega), fun v hv => ⟨by rw [r7 11 (by decide), q.2.2 v hv], by rw [r8 v hv, q12]⟩⟩, hq, ?_, r4, ⟨by omega, by omega⟩, ?_⟩
  · skip
    refine jr_1 jm_264 (show jw_cd cd_264 0 = some (.aload_n 0) by decide +kernel) rfl ?_
    refine jr_1 jm_264 (show jw_cd cd_264 1 = some (.iconst 4) by decide +kernel) rfl ?_
    refine jr_1 jm_264 (show jw_cd cd_264 2 = some (.iconst 5) by decide +kernel) rfl ?_
    refine jr_1 jm_264 (show jw_cd cd_264 3 = some (.iconst 0) by decide +kernel) rfl ?_
    refine jr_1 jm_264 (F2 := (5, [some (.ref 15), none, none, none], [.long (Int64.ofInt (0)), .int (Int32.ofInt (0)), .int (Int32.ofInt (5)), .int (Int32.ofInt (4)), .ref 15], ml_mk h σ)) (show jw_cd cd_264 4 = some (.lconst 0) by decide +kernel) rfl ?_
    refine jr_c jm_264 (show jw_cd cd_264 5 = some (.invokevirtual 110) by decide +kernel) (mc_v hl (n := 4) (m2 := 208) (bs := [.int (Int32.ofInt (4)), .int (Int32.ofInt (5)), .int (Int32.ofInt (0)), .long (Int64.ofInt (0))]) (r := []) (show jw_find jw_cvT 34 110 = some (4, [(16, 208)]) by decide +kernel) (by decide) rfl rfl rfl) jm_208 ⟨Nat.le_of_ble_eq_true rfl, by decide⟩ (jn_nodeM hl ⟨by decide, by decide⟩ (m := nn) e11 hn0 (by omega)) ?_
    refine jr_1 jm_264 (F2 := (9, [some (.ref 15), some (.int (Int32.ofInt (170 * 4 + nn))), none, none], [], ml_mk h (mNode σ 4 5 0 0))) (show jw_cd cd_264 8 = some (.istore_n 1) by decide +kernel) rfl ?_
    refine jr_1 jm_264 (show jw_cd cd_264 9 = some (.iconst (-1)) by decide +kernel) rfl ?_
    refine jr_1 jm_264 (F2 := (11, [some (.ref 15), some (.int (Int32.ofInt (170 * 4 + nn))), some (.int (Int32.ofInt (-1))), none], [], ml_mk h (mNode σ 4 5 0 0))) (show jw_cd cd_264 10 = some (.istore_n 2) by decide +kernel) rfl ?_
    refine jr_1 jm_264 (show jw_cd cd_264 11 = some (.iconst 0) by decide +kernel) rfl ?_
    refine jr_1 jm_264 (F2 := (13, [some (.ref 15), some (.int (Int32.ofInt (170 * 4 + nn))), some (.int (Int32.ofInt (-1))), some (.int (Int32.ofInt (0)))], [], ml_mk h (mNode σ 4 5 0 0))) (show jw_cd cd_264 12 = some (.istore_n 3) by decide +kernel) rfl ?_
    exact r1
  · rw [r7 11 (by decide), mNode_11, if_pos rfl, e11]
  · exact lb_fin r2 (zA_mono (by omega)) (zA_mono (by omega)) (fun x hx => Or.inr ⟨by have := (r3 x hx).1; omega, by have := (r3 x hx).2; omega⟩) (Or.inr ⟨by omega, by omega⟩)
theorem jn_fl_in {β : Bool} {d : Nat} {h : jx_H} (hl : 49 ≤ h.length) {A B : Int → Prop} {v x0 e0 : Int} (hA : mIx A) (hB : mIx B) : ∀ (G : FT) (x p : Int) (σ : mS), mF σ A B G x → σ 36 0 = p → 0 ≤ p → p + (sib G).length ≤ 400 →
    ∃ τ : mS, (∀ res, jx_r (jz β) jw_M (d + 1) 265 (104, [some (.ref 15), some (.int (Int32.ofInt (v))), some (.int (Int32.ofInt (x0))), some (.int (Int32.ofInt (e0))), some (.int (Int32.ofInt (-1)))], [], ml_mk h τ) res → jx_r (jz β) jw_M (d + 1) 265 (74, [some (.ref 15), some (.int (Int32.ofInt (v))), some (.int (Int32.ofInt (x0))), some (.int (Int32.ofInt (e0))), some (.int (Int32.ofInt (x)))], [], ml_mk h σ) res) ∧ enF σ τ p ∧ τ 36 0 = p + (sib G).length ∧ tpR τ A B p ((sib G).map fun u => (0, some u))
  | .leaf, x, p, σ, hF, e36, hp, hr => by
    have hx : x = -1 := hF
    subst hx
    refine ⟨σ, fun res kk => ?_, enF_refl σ p, by rw [e36]; simp [sib], trivial⟩
    refine jr_1 jm_265 (show jw_cd cd_265 74 = some (.iload 4) by decide +kernel) rfl ?_
    refine jr_1 jm_265 (show jw_cd cd_265 76 = some (.iconst (-1)) by decide +kernel) rfl ?_
    refine jr_1 jm_265 (show jw_cd cd_265 77 = some (.if_icmp .eq 27) by decide +kernel) (mb_t (q := .eq) (a := -1) (b := -1) (t := 104) (by show -1 = -1; omega) ⟨by omega, by omega⟩ ⟨by omega, by omega⟩ (by decide) (by decide)) ?_
    exact kk
  | .inner s0 i u0 c n, x, p, σ, hF, e36, hp, hr => by
    obtain ⟨h1, h2, h3, h4, h5, h6⟩ := hF
    have hx := hB x h1
    obtain ⟨y, hy⟩ : ∃ y, y = σ 8 x := ⟨_, rfl⟩
    have e8 : σ 8 x = y := hy.symm
    rw [e8] at h2 h4 h5
    have hyr := hA y h2
    have hV : mV σ A B y i c := ⟨h2, h4, h5⟩
    have hll : ((sib (.inner s0 i u0 c n)).length : Int) = (sib n).length + 1 := by
      show (((i, c) :: sib n).length : Int) = _
      simp
    rw [hll] at hr
    obtain ⟨z1, z2, z3, z4⟩ := en_1 (σ := σ) (v := y) (w := 0) e36
    have q8 : ∀ f, 3 ≤ f → f ≤ 10 → mEnter σ y 0 f = σ f := fun f f1 f2 => z1.2 f (by simp; omega)
    have e10c : mEnter σ y 0 10 x = σ 10 x := by rw [q8 10 (by decide) (by decide)]
    obtain ⟨τ, y1, y2, y3, y4⟩ := jn_fl_in (β := β) (d := d) (v := v) (x0 := x0) (e0 := e0) hl hA hB n (σ 10 x) (p + 1) (mEnter σ y 0) (mF_fr (N := 1740) (fun f v f1 f2 _ => by rw [q8 f f1 (by omega)]) (fun f f1 f2 => q8 f (by omega) f2) (fun v hv => (hA v hv).2) h6) z2 (by omega) (by omega)
    refine ⟨τ, fun res kk => ?_, enF_trans z1 y2 (by omega), by rw [y3, hll]; omega, ⟨⟨?_, ?_⟩, y4⟩⟩
    rotate_left
    · rw [y2.1 38 p (by decide) (by decide) (by omega), z4]
    · rw [y2.1 37 p (by decide) (by decide) (by omega), z3]
      exact mO_en y2 (mO_en (x := some (i, c)) z1 hV)
    have y1 := y1 res kk
    refine jr_1 jm_265 (show jw_cd cd_265 74 = some (.iload 4) by decide +kernel) rfl ?_
    refine jr_1 jm_265 (show jw_cd cd_265 76 = some (.iconst (-1)) by decide +kernel) rfl ?_
    refine jr_1 jm_265 (show jw_cd cd_265 77 = some (.if_icmp .eq 27) by decide +kernel) (mb_f (q := .eq) (a := x) (b := -1) (by show ¬ (x = -1); omega) ⟨by omega, by omega⟩ ⟨by omega, by omega⟩ (by decide)) ?_
    refine jr_1 jm_265 (show jw_cd cd_265 80 = some (.aload_n 0) by decide +kernel) rfl ?_
    refine jr_1 jm_265 (show jw_cd cd_265 81 = some (.aload_n 0) by decide +kernel) rfl ?_
    refine jr_1 jm_265 (show jw_cd cd_265 82 = some (.getfield 29) by decide +kernel) (mg_a hl (a := 22) (show jw_fld 34 29 16 = some 8 by decide +kernel) (by decide) (by decide)) ?_
    refine jr_1 jm_265 (show jw_cd cd_265 85 = some (.iload 4) by decide +kernel) rfl ?_
    refine jr_1 jm_265 (show jw_cd cd_265 87 = some (.iaload) by decide +kernel) (ma_i hl (i := x) (e := y) 8 (by omega) (by show _ < ((1740 : Nat) : Int); omega) e8 (by decide) (by decide) (by decide)) ?_
    refine jr_1 jm_265 (show jw_cd cd_265 88 = some (.iconst 0) by decide +kernel) rfl ?_
    refine jr_c jm_265 (show jw_cd cd_265 89 = some (.invokevirtual 280) by decide +kernel) (mc_v hl (n := 2) (m2 := 261) (bs := [.int (Int32.ofInt (y)), .int (Int32.ofInt (0))]) (r := []) (show jw_find jw_cvT 34 280 = some (2, [(16, 261)]) by decide +kernel) (by decide) rfl rfl rfl) jm_261 ⟨Nat.le_of_ble_eq_true rfl, by decide⟩ (jn_enter hl ⟨by omega, by omega⟩) ?_
    refine jr_1 jm_265 (show jw_cd cd_265 92 = some (.aload_n 0) by decide +kernel) rfl ?_
    refine jr_1 jm_265 (show jw_cd cd_265 93 = some (.getfield 35) by decide +kernel) (mg_a hl (a := 24) (show jw_fld 34 35 16 = some 10 by decide +kernel) (by decide) (by decide)) ?_
    refine jr_1 jm_265 (show jw_cd cd_265 96 = some (.iload 4) by decide +kernel) rfl ?_
    refine jr_1 jm_265 (show jw_cd cd_265 98 = some (.iaload) by decide +kernel) (ma_i hl (i := x) (e := σ 10 x) 10 (by omega) (by show _ < ((1740 : Nat) : Int); omega) e10c (by decide) (by decide) (by decide)) ?_
    refine jr_1 jm_265 (F2 := (101, [some (.ref 15), some (.int (Int32.ofInt (v))), some (.int (Int32.ofInt (x0))), some (.int (Int32.ofInt (e0))), some (.int (Int32.ofInt (σ 10 x)))], [], ml_mk h (mEnter σ y 0))) (show jw_cd cd_265 99 = some (.istore 4) by decide +kernel) rfl ?_
    refine jr_1 jm_265 (show jw_cd cd_265 101 = some (.goto (-27)) by decide +kernel) (ju_go (t := 74) (by decide)) ?_
    exact y1
theorem flatS_c {s : Nat} {i : tI} {u : Unit} {c n : FT} : flatS (.inner s i u c n) = (if i.1 = 5 then sib c else [(i, c)]) ++ flatS n := rfl
theorem jn_fl_out {β : Bool} {d : Nat} {h : jx_H} (hl : 49 ≤ h.length) {A B : Int → Prop} {v : Int} (hA : mIx A) (hB : mIx B) : ∀ (G : FT) (x p : Int) (σ : mS) (c3 c4 : Option Value), mF σ A B G x → fwf G → σ 36 0 = p → 0 ≤ p → p + (flatS G).length ≤ 400 →
    ∃ τ : mS, jx_r (jz β) jw_M (d + 1) 265 (24, [some (.ref 15), some (.int (Int32.ofInt (v))), some (.int (Int32.ofInt (x))), c3, c4], [], ml_mk h σ) (ml_mk h (τ), .inl none) ∧ enF σ τ p ∧ τ 36 0 = p + (flatS G).length ∧ tpR τ A B p ((flatS G).map fun u => (0, some u))
  | .leaf, x, p, σ, c3, c4, hF, hw, e36, hp, hr => by
    have hx : x = -1 := hF
    subst hx
    refine ⟨σ, ?_, enF_refl σ p, by rw [e36]; simp [flatS, sib], trivial⟩
    refine jr_1 jm_265 (show jw_cd cd_265 24 = some (.iload_n 2) by decide +kernel) rfl ?_
    refine jr_1 jm_265 (show jw_cd cd_265 25 = some (.iconst (-1)) by decide +kernel) rfl ?_
    refine jr_1 jm_265 (show jw_cd cd_265 26 = some (.if_icmp .eq 88) by decide +kernel) (mb_t (q := .eq) (a := -1) (b := -1) (t := 114) (by show -1 = -1; omega) ⟨by omega, by omega⟩ ⟨by omega, by omega⟩ (by decide) (by decide)) ?_
    exact jr_v jm_265 (show jw_cd cd_265 114 = some (.return_) by decide +kernel) rfl
  | .inner s0 i u0 c n, x, p, σ, c3, c4, hF, hw, e36, hp, hr => by
    obtain ⟨h1, h2, h3, h4, h5, h6⟩ := hF
    have hx := hB x h1
    obtain ⟨y, hy⟩ : ∃ y, y = σ 8 x := ⟨_, rfl⟩
    have e8 : σ 8 x = y := hy.symm
    rw [e8] at h2 h4 h5
    have hyr := hA y h2
    have hV : mV σ A B y i c := ⟨h2, h4, h5⟩
    have e3 : σ 3 y = i.1 := h4.1
    have hsb := sib_ok _ hw (i, c) (List.mem_cons_self ..)
    have i0 : 0 ≤ i.1 := hsb.1.1
    have i6 : i.1 ≤ 6 := hsb.1.2.1
    have hw2 : fwf n := hw.2.2
    by_cases hi : i.1 = 5
    · have hfl : flatS (.inner s0 i u0 c n) = sib c ++ flatS n := by rw [flatS_c, if_pos hi]
      have hll : ((flatS (.inner s0 i u0 c n)).length : Int) = (sib c).length + (flatS n).length := by rw [hfl, List.length_append]; omega
      rw [hll] at hr
      obtain ⟨τ1, r1, r2, r3, r4⟩ := jn_fl_in (β := β) (d := d) (h := h) (v := v) (x0 := x) (e0 := y) hl hA hB c (σ 6 y) p σ h5 e36 hp (by omega)
      have q8 : ∀ f, 3 ≤ f → f ≤ 10 → τ1 f = σ f := fun f f1 f2 => r2.2 f (by simp; omega)
      have e10 : τ1 10 x = σ 10 x := by rw [q8 10 (by decide) (by decide)]
      obtain ⟨τ, y1, y2, y3, y4⟩ := jn_fl_out (β := β) (d := d) (h := h) (v := v) hl hA hB n (σ 10 x) (p + (sib c).length) τ1 (some (.int (Int32.ofInt (y)))) (some (.int (Int32.ofInt (-1)))) (mF_fr (N := 1740) (fun f v f1 f2 _ => by rw [q8 f f1 (by omega)]) (fun f f1 f2 => q8 f (by omega) f2) (fun v hv => (hA v hv).2) h6) hw2 r3 (by omega) (by omega)
      refine ⟨τ, ?_, enF_trans r2 y2 (by omega), by rw [y3, hll]; omega, ?_⟩
      rotate_left
      · rw [hfl, List.map_append]
        refine tpR_app _ p _ (tpR_fr (fun w x hx => mO_en y2 hx) _ p (fun j j1 j2 => ?_) r4) ?_
        · rw [List.length_map] at j2
          exact ⟨y2.1 37 j (by decide) (by decide) (by omega), y2.1 38 j (by decide) (by decide) (by omega)⟩
        · rw [List.length_map]
          exact y4
      refine jr_1 jm_265 (show jw_cd cd_265 24 = some (.iload_n 2) by decide +kernel) rfl ?_
      refine jr_1 jm_265 (show jw_cd cd_265 25 = some (.iconst (-1)) by decide +kernel) rfl ?_
      refine jr_1 jm_265 (show jw_cd cd_265 26 = some (.if_icmp .eq 88) by decide +kernel) (mb_f (q := .eq) (a := x) (b := -1) (by show ¬ (x = -1); omega) ⟨by omega, by omega⟩ ⟨by omega, by omega⟩ (by decide)) ?_
      refine jr_1 jm_265 (show jw_cd cd_265 29 = some (.aload_n 0) by decide +kernel) rfl ?_
      refine jr_1 jm_265 (show jw_cd cd_265 30 = some (.getfield 29) by decide +kernel) (mg_a hl (a := 22) (show jw_fld 34 29 16 = some 8 by decide +kernel) (by decide) (by decide)) ?_
      refine jr_1 jm_265 (show jw_cd cd_265 33 = some (.iload_n 2) by decide +kernel) rfl ?_
      refine jr_1 jm_265 (show jw_cd cd_265 34 = some (.iaload) by decide +kernel) (ma_i hl (i := x) (e := y) 8 (by omega) (by show _ < ((1740 : Nat) : Int); omega) e8 (by decide) (by decide) (by decide)) ?_
      refine jr_1 jm_265 (F2 := (36, [some (.ref 15), some (.int (Int32.ofInt (v))), some (.int (Int32.ofInt (x))), some (.int (Int32.ofInt (y))), c4], [], ml_mk h σ)) (show jw_cd cd_265 35 = some (.istore_n 3) by decide +kernel) rfl ?_
      refine jr_1 jm_265 (show jw_cd cd_265 36 = some (.aload_n 0) by decide +kernel) rfl ?_
      refine jr_1 jm_265 (show jw_cd cd_265 37 = some (.getfield 13) by decide +kernel) (mg_a hl (a := 17) (show jw_fld 34 13 16 = some 3 by decide +kernel) (by decide) (by decide)) ?_
      refine jr_1 jm_265 (show jw_cd cd_265 40 = some (.iload_n 3) by decide +kernel) rfl ?_
      refine jr_1 jm_265 (show jw_cd cd_265 41 = some (.iaload) by decide +kernel) (ma_i hl (i := y) (e := i.1) 3 (by omega) (by show _ < ((1740 : Nat) : Int); omega) e3 (by decide) (by decide) (by decide)) ?_
      refine jr_1 jm_265 (show jw_cd cd_265 42 = some (.iconst 5) by decide +kernel) rfl ?_
      refine jr_1 jm_265 (show jw_cd cd_265 43 = some (.if_icmp .eq 9) by decide +kernel) (mb_t (q := .eq) (a := i.1) (b := 5) (t := 52) (by show i.1 = 5; omega) ⟨by omega, by omega⟩ ⟨by omega, by omega⟩ (by decide) (by decide)) ?_
      refine jr_1 jm_265 (show jw_cd cd_265 52 = some (.aload_n 0) by decide +kernel) rfl ?_
      refine jr_1 jm_265 (show jw_cd cd_265 53 = some (.getfield 13) by decide +kernel) (mg_a hl (a := 17) (show jw_fld 34 13 16 = some 3 by decide +kernel) (by decide) (by decide)) ?_
      refine jr_1 jm_265 (show jw_cd cd_265 56 = some (.iload_n 3) by decide +kernel) rfl ?_
      refine jr_1 jm_265 (show jw_cd cd_265 57 = some (.iaload) by decide +kernel) (ma_i hl (i := y) (e := i.1) 3 (by omega) (by show _ < ((1740 : Nat) : Int); omega) e3 (by decide) (by decide) (by decide)) ?_
      refine jr_1 jm_265 (show jw_cd cd_265 58 = some (.iconst 5) by decide +kernel) rfl ?_
      refine jr_1 jm_265 (show jw_cd cd_265 59 = some (.if_icmp .ne 12) by decide +kernel) (mb_f (q := .ne) (a := i.1) (b := 5) (by show ¬ (¬ (i.1 = 5)); omega) ⟨by omega, by omega⟩ ⟨by omega, by omega⟩ (by decide)) ?_
      refine jr_1 jm_265 (show jw_cd cd_265 62 = some (.aload_n 0) by decide +kernel) rfl ?_
      refine jr_1 jm_265 (show jw_cd cd_265 63 = some (.getfield 23) by decide +kernel) (mg_a hl (a := 20) (show jw_fld 34 23 16 = some 6 by decide +kernel) (by decide) (by decide)) ?_
      refine jr_1 jm_265 (show jw_cd cd_265 66 = some (.iload_n 3) by decide +kernel) rfl ?_
      refine jr_1 jm_265 (show jw_cd cd_265 67 = some (.iaload) by decide +kernel) (ma_i hl (i := y) (e := σ 6 y) 6 (by omega) (by show _ < ((1740 : Nat) : Int); omega) rfl (by decide) (by decide) (by decide)) ?_
      refine jr_1 jm_265 (show jw_cd cd_265 68 = some (.goto 4) by decide +kernel) (ju_go (t := 72) (by decide)) ?_
      refine jr_1 jm_265 (F2 := (74, [some (.ref 15), some (.int (Int32.ofInt (v))), some (.int (Int32.ofInt (x))), some (.int (Int32.ofInt (y))), some (.int (Int32.ofInt (σ 6 y)))], [], ml_mk h σ)) (show jw_cd cd_265 72 = some (.istore 4) by decide +kernel) rfl ?_
      refine r1 _ ?_
      refine jr_1 jm_265 (show jw_cd cd_265 104 = some (.aload_n 0) by decide +kernel) rfl ?_
      refine jr_1 jm_265 (show jw_cd cd_265 105 = some (.getfield 35) by decide +kernel) (mg_a hl (a := 24) (show jw_fld 34 35 16 = some 10 by decide +kernel) (by decide) (by decide)) ?_
      refine jr_1 jm_265 (show jw_cd cd_265 108 = some (.iload_n 2) by decide +kernel) rfl ?_
      refine jr_1 jm_265 (show jw_cd cd_265 109 = some (.iaload) by decide +kernel) (ma_i hl (i := x) (e := σ 10 x) 10 (by omega) (by show _ < ((1740 : Nat) : Int); omega) e10 (by decide) (by decide) (by decide)) ?_
      refine jr_1 jm_265 (F2 := (111, [some (.ref 15), some (.int (Int32.ofInt (v))), some (.int (Int32.ofInt (σ 10 x))), some (.int (Int32.ofInt (y))), some (.int (Int32.ofInt (-1)))], [], ml_mk h τ1)) (show jw_cd cd_265 110 = some (.istore_n 2) by decide +kernel) rfl ?_
      refine jr_1 jm_265 (show jw_cd cd_265 111 = some (.goto (-87)) by decide +kernel) (ju_go (t := 24) (by decide)) ?_
      exact y1
    · have hfl : flatS (.inner s0 i u0 c n) = (i, c) :: flatS n := by rw [flatS_c, if_neg hi]; rfl
      have hll : ((flatS (.inner s0 i u0 c n)).length : Int) = (flatS n).length + 1 := by rw [hfl]; simp
      rw [hll] at hr
      obtain ⟨z1, z2, z3, z4⟩ := en_1 (σ := σ) (v := y) (w := 0) e36
      have q8 : ∀ f, 3 ≤ f → f ≤ 10 → mEnter σ y 0 f = σ f := fun f f1 f2 => z1.2 f (by simp; omega)
      have e10c : mEnter σ y 0 10 x = σ 10 x := by rw [q8 10 (by decide) (by decide)]
      have e3c : mEnter σ y 0 3 y = i.1 := by rw [q8 3 (by decide) (by decide)]; exact e3
      obtain ⟨τ, y1, y2, y3, y4⟩ := jn_fl_out (β := β) (d := d) (h := h) (v := v) hl hA hB n (σ 10 x) (p + 1) (mEnter σ y 0) (some (.int (Int32.ofInt (y)))) (some (.int (Int32.ofInt (-1)))) (mF_fr (N := 1740) (fun f v f1 f2 _ => by rw [q8 f f1 (by omega)]) (fun f f1 f2 => q8 f (by omega) f2) (fun v hv => (hA v hv).2) h6) hw2 z2 (by omega) (by omega)
      refine ⟨τ, ?_, enF_trans z1 y2 (by omega), by rw [y3, hll]; omega, ?_⟩
      rotate_left
      · rw [hfl]
        refine ⟨⟨?_, ?_⟩, y4⟩
        · rw [y2.1 38 p (by decide) (by decide) (by omega), z4]
        · rw [y2.1 37 p (by decide) (by decide) (by omega), z3]
          exact mO_en y2 (mO_en (x := some (i, c)) z1 hV)
      refine jr_1 jm_265 (show jw_cd cd_265 24 = some (.iload_n 2) by decide +kernel) rfl ?_
      refine jr_1 jm_265 (show jw_cd cd_265 25 = some (.iconst (-1)) by decide +kernel) rfl ?_
      refine jr_1 jm_265 (show jw_cd cd_265 26 = some (.if_icmp .eq 88) by decide +kernel) (mb_f (q := .eq) (a := x) (b := -1) (by show ¬ (x = -1); omega) ⟨by omega, by omega⟩ ⟨by omega, by omega⟩ (by decide)) ?_
      refine jr_1 jm_265 (show jw_cd cd_265 29 = some (.aload_n 0) by decide +kernel) rfl ?_
      refine jr_1 jm_265 (show jw_cd cd_265 30 = some (.getfield 29) by decide +kernel) (mg_a hl (a := 22) (show jw_fld 34 29 16 = some 8 by decide +kernel) (by decide) (by decide)) ?_
      refine jr_1 jm_265 (show jw_cd cd_265 33 = some (.iload_n 2) by decide +kernel) rfl ?_
      refine jr_1 jm_265 (show jw_cd cd_265 34 = some (.iaload) by decide +kernel) (ma_i hl (i := x) (e := y) 8 (by omega) (by show _ < ((1740 : Nat) : Int); omega) e8 (by decide) (by decide) (by decide)) ?_
      refine jr_1 jm_265 (F2 := (36, [some (.ref 15), some (.int (Int32.ofInt (v))), some (.int (Int32.ofInt (x))), some (.int (Int32.ofInt (y))), c4], [], ml_mk h σ)) (show jw_cd cd_265 35 = some (.istore_n 3) by decide +kernel) rfl ?_
      refine jr_1 jm_265 (show jw_cd cd_265 36 = some (.aload_n 0) by decide +kernel) rfl ?_
      refine jr_1 jm_265 (show jw_cd cd_265 37 = some (.getfield 13) by decide +kernel) (mg_a hl (a := 17) (show jw_fld 34 13 16 = some 3 by decide +kernel) (by decide) (by decide)) ?_
      refine jr_1 jm_265 (show jw_cd cd_265 40 = some (.iload_n 3) by decide +kernel) rfl ?_
      refine jr_1 jm_265 (show jw_cd cd_265 41 = some (.iaload) by decide +kernel) (ma_i hl (i := y) (e := i.1) 3 (by omega) (by show _ < ((1740 : Nat) : Int); omega) e3 (by decide) (by decide) (by decide)) ?_
      refine jr_1 jm_265 (show jw_cd cd_265 42 = some (.iconst 5) by decide +kernel) rfl ?_
      refine jr_1 jm_265 (show jw_cd cd_265 43 = some (.if_icmp .eq 9) by decide +kernel) (mb_f (q := .eq) (a := i.1) (b := 5) (by show ¬ (i.1 = 5); omega) ⟨by omega, by omega⟩ ⟨by omega, by omega⟩ (by decide)) ?_
      refine jr_1 jm_265 (show jw_cd cd_265 46 = some (.aload_n 0) by decide +kernel) rfl ?_
      refine jr_1 jm_265 (show jw_cd cd_265 47 = some (.iload_n 3) by decide +kernel) rfl ?_
      refine jr_1 jm_265 (show jw_cd cd_265 48 = some (.iconst 0) by decide +kernel) rfl ?_
      refine jr_c jm_265 (show jw_cd cd_265 49 = some (.invokevirtual 280) by decide +kernel) (mc_v hl (n := 2) (m2 := 261) (bs := [.int (Int32.ofInt (y)), .int (Int32.ofInt (0))]) (r := []) (show jw_find jw_cvT 34 280 = some (2, [(16, 261)]) by decide +kernel) (by decide) rfl rfl rfl) jm_261 ⟨Nat.le_of_ble_eq_true rfl, by decide⟩ (jn_enter hl ⟨by omega, by omega⟩) ?_
      refine jr_1 jm_265 (show jw_cd cd_265 52 = some (.aload_n 0) by decide +kernel) rfl ?_
      refine jr_1 jm_265 (show jw_cd cd_265 53 = some (.getfield 13) by decide +kernel) (mg_a hl (a := 17) (show jw_fld 34 13 16 = some 3 by decide +kernel) (by decide) (by decide)) ?_
      refine jr_1 jm_265 (show jw_cd cd_265 56 = some (.iload_n 3) by decide +kernel) rfl ?_
      refine jr_1 jm_265 (show jw_cd cd_265 57 = some (.iaload) by decide +kernel) (ma_i hl (i := y) (e := i.1) 3 (by omega) (by show _ < ((1740 : Nat) : Int); omega) e3c (by decide) (by decide) (by decide)) ?_
      refine jr_1 jm_265 (show jw_cd cd_265 58 = some (.iconst 5) by decide +kernel) rfl ?_
      refine jr_1 jm_265 (show jw_cd cd_265 59 = some (.if_icmp .ne 12) by decide +kernel) (mb_t (q := .ne) (a := i.1) (b := 5) (t := 71) (by show ¬ (i.1 = 5); omega) ⟨by omega, by omega⟩ ⟨by omega, by omega⟩ (by decide) (by decide)) ?_
      refine jr_1 jm_265 (show jw_cd cd_265 71 = some (.iconst (-1)) by decide +kernel) rfl ?_
      refine jr_1 jm_265 (F2 := (74, [some (.ref 15), some (.int (Int32.ofInt (v))), some (.int (Int32.ofInt (x))), some (.int (Int32.ofInt (y))), some (.int (Int32.ofInt (-1)))], [], ml_mk h (mEnter σ y 0))) (show jw_cd cd_265 72 = some (.istore 4) by decide +kernel) rfl ?_
      refine jr_1 jm_265 (show jw_cd cd_265 74 = some (.iload 4) by decide +kernel) rfl ?_
      refine jr_1 jm_265 (show jw_cd cd_265 76 = some (.iconst (-1)) by decide +kernel) rfl ?_
      refine jr_1 jm_265 (show jw_cd cd_265 77 = some (.if_icmp .eq 27) by decide +kernel) (mb_t (q := .eq) (a := -1) (b := -1) (t := 104) (by show -1 = -1; omega) ⟨by omega, by omega⟩ ⟨by omega, by omega⟩ (by decide) (by decide)) ?_
      refine jr_1 jm_265 (show jw_cd cd_265 104 = some (.aload_n 0) by decide +kernel) rfl ?_
      refine jr_1 jm_265 (show jw_cd cd_265 105 = some (.getfield 35) by decide +kernel) (mg_a hl (a := 24) (show jw_fld 34 35 16 = some 10 by decide +kernel) (by decide) (by decide)) ?_
      refine jr_1 jm_265 (show jw_cd cd_265 108 = some (.iload_n 2) by decide +kernel) rfl ?_
      refine jr_1 jm_265 (show jw_cd cd_265 109 = some (.iaload) by decide +kernel) (ma_i hl (i := x) (e := σ 10 x) 10 (by omega) (by show _ < ((1740 : Nat) : Int); omega) e10c (by decide) (by decide) (by decide)) ?_
      refine jr_1 jm_265 (F2 := (111, [some (.ref 15), some (.int (Int32.ofInt (v))), some (.int (Int32.ofInt (σ 10 x))), some (.int (Int32.ofInt (y))), some (.int (Int32.ofInt (-1)))], [], ml_mk h (mEnter σ y 0))) (show jw_cd cd_265 110 = some (.istore_n 2) by decide +kernel) rfl ?_
      refine jr_1 jm_265 (show jw_cd cd_265 111 = some (.goto (-87)) by decide +kernel) (ju_go (t := 24) (by decide)) ?_
      exact y1
theorem jn_flatten {β : Bool} {d : Nat} {h : jx_H} {σ : mS} (hl : 49 ≤ h.length) {A B : Int → Prop} {v : Int} {i : tI} {F : FT} (hA : mIx A) (hB : mIx B) (hV : mV σ A B v i F) (hF : fwf F) (hr : (flatS F).length ≤ 400) :
    ∃ τ : mS, jx_r (jz β) jw_M (d + 1) 265 (0, [some (.ref 15), some (.int (Int32.ofInt (v))), none, none, none], [], ml_mk h σ) (ml_mk h (τ), .inl none) ∧ (∀ f, f ∉ [36, 37, 38, 39, 40, 41] → τ f = σ f) ∧ τ 36 0 = (flatS F).length ∧ τ 41 0 = 1 ∧ τ 40 0 = 0 ∧ tpR τ A B 0 ((flatS F).map fun u => (0, some u)) := by
  have hv := hA v hV.1
  obtain ⟨σ1, h1⟩ : ∃ σ1, σ1 = (su (su (su σ 36 (0) (0)) 41 (0) (1)) 40 (0) (0)) := ⟨_, rfl⟩
  have hq : ∀ f, f ∉ [36, 40, 41] → σ1 f = σ f := fun f hf => by
    simp only [List.mem_cons, List.mem_nil_iff, or_false, not_or] at hf
    rw [h1, su_row (by omega), su_row (by omega), su_row (by omega)]
  obtain ⟨τ, y1, y2, y3, y4⟩ := jn_fl_out (β := β) (d := d) (h := h) (v := v) hl hA hB F (σ 6 v) 0 σ1 none none (mF_fr (N := 1740) (fun f v f1 f2 _ => by rw [hq f (by simp; omega)]) (fun f f1 f2 => hq f (by simp; omega)) (fun v hv => (hA v hv).2) hV.2.2) hF (by rw [h1, su_nf (by decide), su_nf (by decide), su_eq]) (by omega) (by omega)
  refine ⟨τ, ?_, fun f hf => ?_, by rw [y3]; omega, ?_, ?_, y4⟩
  rotate_left
  · simp only [List.mem_cons, List.mem_nil_iff, or_false, not_or] at hf
    rw [y2.2 f (by simp; omega), hq f (by simp; omega)]
  · rw [y2.2 41 (by decide), h1, su_nf (by decide), su_eq]
  · rw [y2.2 40 (by decide), h1, su_eq]
  rw [h1] at y1
  refine jr_1 jm_265 (show jw_cd cd_265 0 = some (.aload_n 0) by decide +kernel) rfl ?_
  refine jr_1 jm_265 (show jw_cd cd_265 1 = some (.iconst 0) by decide +kernel) rfl ?_
  refine jr_1 jm_265 (show jw_cd cd_265 2 = some (.putfield 264) by decide +kernel) (mp_i hl (x := 0) (show jw_fld 34 264 16 = some 36 by decide +kernel) (by decide) (by decide) (show jw_ft 16 36 = some .int by decide +kernel) (show jw_fm 34 16 36 = some false by decide +kernel)) ?_
  refine jr_1 jm_265 (show jw_cd cd_265 5 = some (.aload_n 0) by decide +kernel) rfl ?_
  refine jr_1 jm_265 (show jw_cd cd_265 6 = some (.iconst 1) by decide +kernel) rfl ?_
  refine jr_1 jm_265 (show jw_cd cd_265 7 = some (.putfield 283) by decide +kernel) (mp_i hl (x := 1) (show jw_fld 34 283 16 = some 41 by decide +kernel) (by decide) (by decide) (show jw_ft 16 41 = some .int by decide +kernel) (show jw_fm 34 16 41 = some false by decide +kernel)) ?_
  refine jr_1 jm_265 (show jw_cd cd_265 10 = some (.aload_n 0) by decide +kernel) rfl ?_
  refine jr_1 jm_265 (show jw_cd cd_265 11 = some (.getfield 98) by decide +kernel) (mg_a hl (a := 45) (show jw_fld 34 98 16 = some 40 by decide +kernel) (by decide) (by decide)) ?_
  refine jr_1 jm_265 (show jw_cd cd_265 14 = some (.iconst 0) by decide +kernel) rfl ?_
  refine jr_1 jm_265 (show jw_cd cd_265 15 = some (.iconst 0) by decide +kernel) rfl ?_
  refine jr_1 jm_265 (show jw_cd cd_265 16 = some (.iastore) by decide +kernel) (ms_i hl (i := 0) (x := 0) 40 (by omega) (by show _ < ((16 : Nat) : Int); omega) (by decide) (by decide) (by decide)) ?_
  refine jr_1 jm_265 (show jw_cd cd_265 17 = some (.aload_n 0) by decide +kernel) rfl ?_
  refine jr_1 jm_265 (show jw_cd cd_265 18 = some (.getfield 23) by decide +kernel) (mg_a hl (a := 20) (show jw_fld 34 23 16 = some 6 by decide +kernel) (by decide) (by decide)) ?_
  refine jr_1 jm_265 (show jw_cd cd_265 21 = some (.iload_n 1) by decide +kernel) rfl ?_
  refine jr_1 jm_265 (show jw_cd cd_265 22 = some (.iaload) by decide +kernel) (ma_i hl (i := v) (e := σ 6 (v)) 6 (by omega) (by show _ < ((1740 : Nat) : Int); omega) ((su_nf (by decide)).trans ((su_nf (by decide)).trans (su_nf (by decide)))) (by decide) (by decide) (by decide)) ?_
  refine jr_1 jm_265 (F2 := (24, [some (.ref 15), some (.int (Int32.ofInt (v))), some (.int (Int32.ofInt (σ 6 (v)))), none, none], [], ml_mk h (su (su (su σ 36 (0) (0)) 41 (0) (1)) 40 (0) (0)))) (show jw_cd cd_265 23 = some (.istore_n 2) by decide +kernel) rfl ?_
  exact y1
