/-! ===== the class: readStage (printed by program: gen117.py) ===== -/
theorem sgU_done {h : jx_H} {X : Nat → Prop} {N0 sa la ea cap : Nat} {f : Nat → Value} {acc : List sE} (hU : sgU h X N0 sa la ea cap f acc) : sgR h X sa (-1, [], acc) := by
  obtain ⟨u1, u2, u3, u4, u5, u6⟩ := hU
  exact ⟨⟨by omega, by omega, u2 sa u1.2.1⟩, jx_big + 9, la, .null, u3, Or.inl ⟨rfl, rfl, ea, cap, f, u4, spL_fr (fun c y z hy => ⟨⟨z.1, z.2.1, (gX_o z.2.2).1⟩, hy⟩) u5⟩⟩
theorem jc_stL {β : Bool} {d : Nat} {T : Int → Int} {n : Int} {X : Nat → Prop} {N0 sa la k : Nat} : ∀ (f i : Nat) (acc : List sE) (p : Int) (h : jx_H) (κ : mS) (ea cap : Nat) (fr : Nat → Value), 14 ≤ f + acc.length → i ≤ acc.length + 2 → k + acc.length ≤ 12 → 50 ≤ h.length → (h.length : Int) + 65 * (n - p) + 100 < 2600000000 → sgU h X N0 sa la ea cap fr acc → cP κ T n p → 0 ≤ κ 7 0 ∧ κ 7 0 ≤ 16 → κ 9 0 = ((k + acc.length : Nat) : Int) → ∃ (κ' : mS) (h' : jx_H) (cap' : Nat), jx_r (jz β) jw_M (d + 11) 128 (52, [some (.ref 6), some (.ref sa), some (.int (Int32.ofInt (((i : Nat) : Int))))], [], (cl_mk h κ)) (cl_mk h' (κ'), .inl (some (.ref (sa)))) ∧ (∀ (c : Nat) (y : jx_C), c < N0 → h[c]? = some y → h'[c]? = some y) ∧ h.length ≤ h'.length ∧ cap' ≤ 30 ∧ mEq [4, 5, 7, 8, 9, 15] κ κ' ∧ (0 ≤ κ' 7 0 ∧ κ' 7 0 ≤ 16) ∧ (∃ fs, h'[sa]? = some (.inr (13, fs))) ∧ (∀ l q, sStp T n k f acc p = .inr (l, q) → sgR h' X sa (-1, [], l) ∧ cP κ' T n q ∧ κ' 9 0 = ((k + l.length : Nat) : Int) ∧ (h'.length : Int) ≤ h.length + 65 * (q - p) ∧ (cvol h' : Int) + 4 * cap ≤ cvol h + 4 * cap' + 250 * (q - p)) ∧ (∀ e, sStp T n k f acc p = .inl e → cE κ' T n e ∧ (h'.length : Int) ≤ h.length + 65 * (n - p) + 65 ∧ (cvol h' : Int) + 4 * cap ≤ cvol h + 4 * cap' + 250 * (n - p) + 250)
  | 0, i, acc, p, h, κ, ea, cap, fr, hf, hi, hk, hl, hb, hU, hP, hsc, e9 => by omega
  | f + 1, i, acc, p, h, κ, ea, cap, fr, hf, hi, hk, hl, hb, hU, hP, hsc, e9 => by
    have ht := hP.1.2.2
    have hp0 := hP.2.2.2.1
    have hpn := hP.2.2.2.2
    have hn160 := ht.2.1
    have hbig : jx_big = 4294967296 := rfl
    obtain ⟨l0, l1, l2, l3⟩ := sgU_lt hU
    obtain ⟨u1, u2, u3, u4, u5, u6⟩ := id hU
    have hr0 : 0 ≤ tC T n p ∧ tC T n p ≤ 126 := (tC_H ht hp0).2.2
    by_cases h91 : tH T n p = 91
    · have hpl : p < n := (tH_r ht hp0).2.2.2 (by rw [h91]; decide)
      have c1 := jc_here (β := β) (d := d + 10) hl hP
      rw [((tC_eq hP.1.2.2 hP.2.2.2.1 (by decide)).mpr h91)] at c1
      obtain ⟨κ1, h1, cap1, c2, w1, w2, w3, w4, w5, w6, w7, w8⟩ := jc_brk (β := β) (d := d) hl hU (by omega) (by omega) hP hsc e9 hk h91
      have oA1 := w1 _ _ u1.2.2.2.1 u1.2.2.2.2.1 u3
      have fN : ∀ (c : Nat) (y : jx_C), c < N0 → h[c]? = some y → h1[c]? = some y := fun c y hc hy => w1 c y (by omega) (by omega) hy
      have e0 : sStp T n k (f + 1) acc p = (match sBr T n p (k + acc.length) with
        | .inl e => .inl e
        | .inr (e, q) => sStp T n k f (acc ++ [e]) q) := by
        refine (if_pos (Or.inr h91)).trans ?_
        rw [show sNxt T n p (k + acc.length) = sBr T n p (k + acc.length) from if_pos h91]; rfl
      cases hs : sBr T n p (k + acc.length) with
      | inl e' =>
        have hE := w8 e' hs
        have c3 := jc_hereW (β := β) (d := d + 10) (h := h1) (by omega) hE.2.1
        refine ⟨κ1, h1, cap1, jc_stB hl ⟨by omega, by omega⟩ (by omega) u3 c1 c2 (jc_stX (by omega) ⟨by omega, by omega⟩ (by omega) oA1 c3 (by decide)), fN, w2.1, by omega, w5, w6, ⟨_, oA1⟩, fun l q hh => (by rw [e0, hs] at hh; cases hh), fun e hh => ?_⟩
        rw [e0, hs] at hh
        injection hh with hh
        rw [← hh]
        exact ⟨hE, by omega, by omega⟩
      | inr y =>
        obtain ⟨e', q⟩ := y
        obtain ⟨ea1, f1, x1, x2, x3⟩ := w7 e' q hs
        have hpq := (sBr_R (T := T) (n := n) (p := p) (k := k + acc.length) ht hp0 (by omega)).2 e' q hs
        have hkk : ¬ k + acc.length = 12 := sBr_k hs
        have la1 : (acc ++ [e']).length = acc.length + 1 := by rw [List.length_append]; rfl
        obtain ⟨κ2, h2, cap2, v1, v2, v3, v4, v5, v6, v7, v8, v9⟩ := jc_stL (β := β) (d := d) (k := k) f (i + 1) (acc ++ [e']) q h1 κ1 ea1 cap1 f1 (by omega) (by omega) (by omega) (by omega) (by omega) x1 x2 w6 (by rw [la1]; exact x3)
        rw [e0, hs]
        refine ⟨κ2, h2, cap2, jc_stB hl ⟨by omega, by omega⟩ (by omega) u3 c1 c2 v1, fun c y hc hy => v2 c y hc (fN c y hc hy), by omega, v4, mEq_trans w5 v5, v6, v7, fun l q' hh => ?_, fun e hh => ?_⟩
        · obtain ⟨a1, a2, a3, a4, a5⟩ := v8 l q' hh
          exact ⟨a1, a2, a3, by omega, by omega⟩
        · obtain ⟨a1, a2, a3⟩ := v9 e hh
          exact ⟨a1, by omega, by omega⟩
    by_cases h46 : tH T n p = 46
    · have hpl : p < n := (tH_r ht hp0).2.2.2 (by rw [h46]; decide)
      have c1 := jc_here (β := β) (d := d + 10) hl hP
      rw [((tC_eq hP.1.2.2 hP.2.2.2.1 (by decide)).mpr h46)] at c1
      obtain ⟨κ1, h1, cap1, c2, w1, w2, w3, w4, w5, w6, w7, w8⟩ := jc_dot (β := β) (d := d) hl hU (by omega) (by omega) hP hsc e9 hk h46
      have oA1 := w1 _ _ u1.2.2.2.1 u1.2.2.2.2.1 u3
      have fN : ∀ (c : Nat) (y : jx_C), c < N0 → h[c]? = some y → h1[c]? = some y := fun c y hc hy => w1 c y (by omega) (by omega) hy
      have e0 : sStp T n k (f + 1) acc p = (match sNxt T n p (k + acc.length) with
        | .inl e => .inl e
        | .inr (e, q) => sStp T n k f (acc ++ [e]) q) := by
        refine (if_pos (Or.inl h46)).trans ?_
        rfl
      cases hs : sNxt T n p (k + acc.length) with
      | inl e' =>
        have hE := w8 e' hs
        have c3 := jc_hereW (β := β) (d := d + 10) (h := h1) (by omega) hE.2.1
        refine ⟨κ1, h1, cap1, jc_stD hl ⟨by omega, by omega⟩ (by omega) u3 c1 c2 (jc_stX (by omega) ⟨by omega, by omega⟩ (by omega) oA1 c3 (by decide)), fN, w2.1, by omega, w5, w6, ⟨_, oA1⟩, fun l q hh => (by rw [e0, hs] at hh; cases hh), fun e hh => ?_⟩
        rw [e0, hs] at hh
        injection hh with hh
        rw [← hh]
        exact ⟨hE, by omega, by omega⟩
      | inr y =>
        obtain ⟨e', q⟩ := y
        obtain ⟨ea1, f1, x1, x2, x3⟩ := w7 e' q hs
        have hpq := (sNxt_R (T := T) (n := n) (p := p) (k := k + acc.length) ht hp0 (by omega)).2 e' q hs
        have hkk : ¬ k + acc.length = 12 := sNxt_k hs
        have la1 : (acc ++ [e']).length = acc.length + 1 := by rw [List.length_append]; rfl
        obtain ⟨κ2, h2, cap2, v1, v2, v3, v4, v5, v6, v7, v8, v9⟩ := jc_stL (β := β) (d := d) (k := k) f (i + 1) (acc ++ [e']) q h1 κ1 ea1 cap1 f1 (by omega) (by omega) (by omega) (by omega) (by omega) x1 x2 w6 (by rw [la1]; exact x3)
        rw [e0, hs]
        refine ⟨κ2, h2, cap2, jc_stD hl ⟨by omega, by omega⟩ (by omega) u3 c1 c2 v1, fun c y hc hy => v2 c y hc (fN c y hc hy), by omega, v4, mEq_trans w5 v5, v6, v7, fun l q' hh => ?_, fun e hh => ?_⟩
        · obtain ⟨a1, a2, a3, a4, a5⟩ := v8 l q' hh
          exact ⟨a1, a2, a3, by omega, by omega⟩
        · obtain ⟨a1, a2, a3⟩ := v9 e hh
          exact ⟨a1, by omega, by omega⟩
    · have e0 : sStp T n k (f + 1) acc p = .inr (acc, p) := if_neg (by omega)
      have c1 := jc_here (β := β) (d := d + 10) hl hP
      have hv1 : ¬ tC T n p = 91 := (fun e => h91 ((tC_eq hP.1.2.2 hP.2.2.2.1 (by decide)).mp e))
      have hv2 : ¬ tC T n p = 46 := (fun e => h46 ((tC_eq hP.1.2.2 hP.2.2.2.1 (by decide)).mp e))
      refine ⟨κ, h, cap, jc_stX hl ⟨by omega, by omega⟩ (by omega) u3 c1 ⟨hr0.1, hr0.2, hv1, hv2⟩, fun c y _ hy => hy, Nat.le_refl _, by omega, mEq_refl _ _, hsc, ⟨_, u3⟩, fun l q hh => ?_, fun e hh => (by rw [e0] at hh; cases hh)⟩
      rw [e0] at hh
      injection hh with hh
      injection hh with z1 z2
      rw [← z1, ← z2]
      exact ⟨sgU_done hU, hP, e9, by omega, by omega⟩
theorem sStg_f {T : Int → Int} {n p : Int} {k : Nat} {f : Nat} {acc : List sE} {q : Int} (h : ∀ r, (match sFst T n p k with | .inl e => .inl e | .inr (.inl st, q) => .inr (st, q, k) | .inr (.inr acc, q) => (match sStp T n k 14 acc q with | .inl e => .inl e | .inr (l, q2) => .inr ((-1, [], l), q2, k + l.length)) : Int ⊕ (sT × Int × Nat)) = r → (match sStp T n k f acc q with | .inl e => .inl e | .inr (l, q2) => .inr ((-1, [], l), q2, k + l.length) : Int ⊕ (sT × Int × Nat)) = r) : sStg T n p k = (match sStp T n k f acc q with | .inl e => .inl e | .inr (l, q2) => .inr ((-1, [], l), q2, k + l.length)) := (h _ rfl).symm
theorem jc_stage {β : Bool} {d : Nat} {h : jx_H} {κ : mS} (hl : 50 ≤ h.length) {N : Nat} (hN : h.length = N) {X : Nat → Prop} (hx : ∀ c, N ≤ c → ¬ X c) {T : Int → Int} {n p : Int} {kk : Nat} (hb32 : (N : Int) + 65 * (n - p) + 400 < 2600000000) (hP : cP κ T n p) (hsc : 0 ≤ κ 7 0 ∧ κ 7 0 ≤ 16) (e9 : κ 9 0 = ((kk : Nat) : Int)) (hk : kk ≤ 12) : ∃ (κ' : mS) (h' : jx_H), jx_r (jz β) jw_M (d + 11) 128 (0, [some (.ref 6), none, none], [], (cl_mk h κ)) (cl_mk h' (κ'), .inl (some (.ref (N)))) ∧ (∀ (c : Nat) (y : jx_C), h[c]? = some y → h'[c]? = some y) ∧ N ≤ h'.length ∧ mEq [4, 5, 7, 8, 9, 15] κ κ' ∧ (0 ≤ κ' 7 0 ∧ κ' 7 0 ≤ 16) ∧ (∃ fs, h'[N]? = some (.inr (13, fs))) ∧ (∀ st q k2, sStg T n p kk = .inr (st, q, k2) → sgR h' X N st ∧ cP κ' T n q ∧ κ' 9 0 = ((k2 : Nat) : Int) ∧ (h'.length : Int) ≤ N + 2 + 65 * (q - p) ∧ (cvol h' : Int) ≤ cvol h + 130 + 250 * (q - p)) ∧ (∀ e, sStg T n p kk = .inl e → cE κ' T n e ∧ (h'.length : Int) ≤ N + 2 + 65 * (n - p) + 130 ∧ (cvol h' : Int) ≤ cvol h + 130 + 250 * (n - p) + 500) := by
  have ht := hP.1.2.2
  have hp0 := hP.2.2.2.1
  have hpn := hP.2.2.2.2
  have hn160 := ht.2.1
  have hbig : jx_big = 4294967296 := rfl
  obtain ⟨h1, eh1⟩ : ∃ h1, h1 = h ++ [.inr (13, [.null, .ref (jx_big + 9), .ref (N + 1)]), .inr (12, [.ref (jx_big + 53), .int (Int32.ofInt (0)), .int (Int32.ofInt (0))])] := ⟨_, rfl⟩
  have hN1 : h1.length = N + 2 := by rw [eh1, List.length_append, hN]; rfl
  have hl1 : 50 ≤ h1.length := by omega
  have q1 : ∀ (c : Nat) (y : jx_C), h[c]? = some y → h1[c]? = some y := fun c y hy => by rw [eh1, List.getElem?_append_left (List.getElem?_eq_some_iff.mp hy).1]; exact hy
  have v1 : cvol h1 = cvol h + 6 := by rw [eh1, cvol_app]; rfl
  have hU1 : sgU h1 X N N (N + 1) (jx_big + 53) 0 (fun _ => .null) [] := by
    refine ⟨⟨by omega, by omega, by omega, by omega, by omega, Or.inl rfl, by omega⟩, hx, ?_, ⟨⟨by omega, by omega, hx _ (by omega)⟩, ⟨0, ?_⟩, Or.inl ⟨rfl, rfl, rfl⟩⟩, fun i e hi => (by cases hi), by decide⟩
    · rw [eh1, ← hN, List.getElem?_append_right (Nat.le_refl _), Nat.sub_self]
      rfl
    · rw [eh1, ← hN, List.getElem?_append_right (by omega), show h.length + 1 - h.length = 1 by omega]
      rfl
  have oA1 := hU1.2.2.1
  have c1 := jc_here (β := β) (d := d + 10) hl1 hP
  obtain ⟨v, ev⟩ : ∃ v, v = tC T n p := ⟨_, rfl⟩
  have hr0 : 0 ≤ v ∧ v ≤ 126 := by rw [ev]; exact (tC_H ht hp0).2.2
  rw [← ev] at c1
  have hpc : pL v = pL (tH T n p) := by rw [ev]; exact ck_c ht hp0
  -- from the heap with the stage on
  have pre : ∀ res, jx_r (jz β) jw_M (d + 11) 128 (8, [some (.ref 6), some (.ref N), none], [], (cl_mk h1 κ)) res → jx_r (jz β) jw_M (d + 11) 128 (0, [some (.ref 6), none, none], [], (cl_mk h κ)) res := fun res kk0 => by
    refine jr_1 jm_128 (F2 := (3, [some (.ref 6), none, none], [.ref N], (cl_mk (h ++ [.inr (13, [.null, .null, .null])]) κ))) (show jw_cd cd_128 0 = some (.new 42) by decide +kernel) (cnw0 hl hN (by omega) (show jw_find jw_xcT 7 42 = none by decide +kernel) (show jw_find jw_nwT 7 42 = some 13 by decide +kernel)) ?_
    refine jr_1 jm_128 (show jw_cd cd_128 3 = some (.dup) by decide +kernel) rfl ?_
    refine jr_c jm_128 (show jw_cd cd_128 4 = some (.invokespecial 44) by decide +kernel) (ccp (n := 0) (m2 := 129) (ci := 13) (a := N) (bs := []) (r := [.ref N]) (by decide +kernel) (js_cls (ap_get hl hN 0 rfl) (jbg (by omega))) (by decide) (jbg (by omega)) (show jw_find jw_cpT 7 44 = some (0, 129) by decide +kernel) rfl rfl rfl) jm_129 ⟨Nat.le_of_ble_eq_true rfl, by decide⟩ (jc_sI hl hN (by omega)) ?_
    refine jr_1 jm_128 (F2 := (8, [some (.ref 6), some (.ref N), none], [], (cl_mk (h ++ [.inr (13, [.null, .ref (jx_big + 9), .ref (N + 1)]), .inr (12, [.ref (jx_big + 53), .int (Int32.ofInt (0)), .int (Int32.ofInt (0))])]) κ))) (show jw_cd cd_128 7 = some (.astore_n 1) by decide +kernel) rfl ?_
    rw [← eh1]
    exact kk0
  by_cases hpl : pL (tH T n p) = true
  · have hvK : 97 ≤ v ∧ v ≤ 122 := by
      rw [← hpc] at hpl
      unfold pL at hpl
      exact of_decide_eq_true hpl
    obtain ⟨κ1, h2, cap1, w, t', c2, w1, w2, w3, w4, w5, w6, w7, w8, w9, w10, w11⟩ := jc_wok (β := β) (d := d) hl1 hU1 (by omega) hP hsc e9 hk
    have hF : sFst T n p kk = sWk T n p kk := by
      unfold sFst sWk
      rw [if_pos hpl]
      cases sKey T n p with
      | inl e => rfl
      | inr x => rfl
    have hl2 : 50 ≤ h2.length := by omega
    have f2 : ∀ (c : Nat) (y : jx_C), h[c]? = some y → h2[c]? = some y := fun c y hy => by
      have := (List.getElem?_eq_some_iff.mp hy).1
      exact w3 c y (by omega) (by omega) (q1 c y hy)
    have go : ∀ res, jx_r (jz β) jw_M (d + 11) 128 (52, [some (.ref 6), some (.ref N), some (.int (Int32.ofInt (((0 : Nat) : Int))))], [], (cl_mk h2 κ1)) res → jx_r (jz β) jw_M (d + 11) 128 (0, [some (.ref 6), none, none], [], (cl_mk h κ)) res := fun res kk0 => by
      refine pre _ ?_
      refine jr_1 jm_128 (show jw_cd cd_128 8 = some (.aload_n 0) by decide +kernel) rfl ?_
      refine jr_1 jm_128 (show jw_cd cd_128 9 = some (.getfield 9) by decide +kernel) (cgr_6_0 (show jw_fld 7 9 4 = some 0 by decide +kernel)) ?_
      refine jr_c jm_128 (show jw_cd cd_128 12 = some (.invokevirtual 45) by decide +kernel) (ccv (n := 0) (m2 := 58) (ci := 1) (a := 1) (bs := []) (r := []) (js_cls cl_c1 (by decide)) (show jw_find jw_cvT 7 45 = some (0, [(1, 58)]) by decide +kernel) (by decide) rfl rfl rfl) jm_58 ⟨Nat.le_of_ble_eq_true rfl, by decide⟩ c1 ?_
      refine jr_c jm_128 (show jw_cd cd_128 15 = some (.invokestatic 49) by decide +kernel) (mc_s (n := 1) (m2 := 99) (bs := [.int (Int32.ofInt (v))]) (r := []) (by decide) (show jw_find jw_csT 7 49 = some (99, 1) by decide +kernel) rfl rfl rfl) jm_99 ⟨Nat.le_of_ble_eq_true rfl, by decide⟩ (jc_isK_t hl1 hvK) ?_
      refine jr_1 jm_128 (show jw_cd cd_128 18 = some (.ifCond .eq 11) by decide +kernel) (mz_f (q := .eq) (a := 1) (by show ¬ (1 = 0); omega) ⟨by omega, by omega⟩ (by decide)) ?_
      refine jr_1 jm_128 (show jw_cd cd_128 21 = some (.aload_n 0) by decide +kernel) rfl ?_
      refine jr_1 jm_128 (show jw_cd cd_128 22 = some (.aload_n 1) by decide +kernel) rfl ?_
      refine jr_c jm_128 (show jw_cd cd_128 23 = some (.invokevirtual 52) by decide +kernel) (ccv (n := 1) (m2 := 130) (ci := 4) (a := 6) (bs := [.ref N]) (r := []) (js_cls cl_c6 (by decide)) (show jw_find jw_cvT 7 52 = some (1, [(4, 130)]) by decide +kernel) (by decide) rfl rfl rfl) jm_130 ⟨Nat.le_of_ble_eq_true rfl, by decide⟩ c2 ?_
      refine jr_1 jm_128 (show jw_cd cd_128 26 = some (.goto 24) by decide +kernel) (ju_go (t := 50) (by decide)) ?_
      refine jr_1 jm_128 (show jw_cd cd_128 50 = some (.iconst 0) by decide +kernel) rfl ?_
      refine jr_1 jm_128 (F2 := (52, [some (.ref 6), some (.ref N), some (.int (Int32.ofInt (0)))], [], (cl_mk h2 κ1))) (show jw_cd cd_128 51 = some (.istore_n 2) by decide +kernel) rfl ?_
      exact kk0
    cases hs : sWk T n p kk with
    | inl e' =>
      have e0 : sStg T n p kk = .inl e' := by unfold sStg; rw [hF, hs]
      have hE := w11 e' hs
      refine ⟨κ1, h2, ?_, f2, by omega, w7, w8, ⟨_, w1⟩, fun st q k2 hh => (by rw [e0] at hh; cases hh), fun e hh => ?_⟩
      · refine go _ ?_
        rcases w2 with rfl | ⟨r, rfl⟩
        · exact jc_stX hl2 ⟨by omega, by omega⟩ (by decide) w1 (jc_hereW hl2 hE.2.1) (by decide)
        · exact jc_stWd hl2 ⟨by omega, by omega⟩ (by decide) w1
      · rw [e0] at hh
        injection hh with hh
        rw [← hh]
        exact ⟨hE, by omega, by omega⟩
    | inr x =>
      obtain ⟨x, q⟩ := x
      have hpq : p < q := ((sFst_R (k := kk) ht hp0 hpn hk).2 x q (hF.trans hs)).1
      cases x with
      | inl st =>
        have e0 : sStg T n p kk = .inr (st, q, kk) := by unfold sStg; rw [hF, hs]
        obtain ⟨a1, ⟨r, rfl⟩, a3, a4⟩ := w9 st q hs
        refine ⟨κ1, h2, go _ (jc_stWd hl2 ⟨by omega, by omega⟩ (by decide) w1), f2, by omega, w7, w8, ⟨_, w1⟩, fun st' q' k2 hh => ?_, fun e hh => (by rw [e0] at hh; cases hh)⟩
        rw [e0] at hh
        injection hh with hh
        injection hh with z1 hh
        injection hh with z2 z3
        rw [← z1, ← z2, ← z3]
        exact ⟨a1, a3, a4, by omega, by omega⟩
      | inr acc =>
        obtain ⟨a0, ea1, f1, a1, a3, a4⟩ := w10 acc q hs
        have ha := (sFst_R (k := kk) ht hp0 hpn hk).2 (.inr acc) q (hF.trans hs)
        have hal : kk + acc.length ≤ 12 := ha.2.2.2
        have hacc1 : acc.length ≤ 1 := by
          unfold sWk at hs
          cases hk1 : sKey T n p with
          | inl e => rw [hk1] at hs; cases hs
          | inr y =>
            obtain ⟨s, q'⟩ := y
            rw [hk1] at hs
            have hs : (if tH T n q' = 40 then (match sWrd T n s p q' with | .inl e => .inl e | .inr (st, q2) => .inr (.inl st, q2)) else if kk = 12 then .inl p else .inr (.inr [(0, s, nnu, 0, nsd, nsd)], q') : Int ⊕ ((sT ⊕ List sE) × Int)) = .inr (.inr acc, q) := hs
            by_cases h40 : tH T n q' = 40
            · rw [if_pos h40] at hs
              cases hw : sWrd T n s p q' with
              | inl e => rw [hw] at hs; cases hs
              | inr z =>
                rw [hw] at hs
                injection hs with hs
                injection hs with z1 z2
                cases z1
            · rw [if_neg h40] at hs
              by_cases h12 : kk = 12
              · rw [if_pos h12] at hs
                cases hs
              · rw [if_neg h12] at hs
                injection hs with hs
                injection hs with z1 z2
                injection z1 with z1
                rw [← z1]
                exact Nat.le_refl 1
        have e0 : sStg T n p kk = (match sStp T n kk 14 acc q with
          | .inl e => .inl e
          | .inr (l, q2) => .inr ((-1, [], l), q2, kk + l.length)) := by unfold sStg; rw [hF, hs]; rfl
        obtain ⟨κ3, h3, cap3, x1, x2, x3, x4, x5, x6, x7, x8, x9⟩ := jc_stL (β := β) (d := d) (k := kk) 14 0 acc q h2 κ1 ea1 cap1 f1 (by omega) (by omega) hal hl2 (by omega) a1 a3 w8 a4
        refine ⟨κ3, h3, go _ x1, fun c y hy => x2 c y (by have := (List.getElem?_eq_some_iff.mp hy).1; omega) (f2 c y hy), by omega, mEq_trans w7 x5, x6, x7, fun st' q' k2 hh => ?_, fun e hh => ?_⟩
        · cases hp2 : sStp T n kk 14 acc q with
          | inl e => rw [e0, hp2] at hh; cases hh
          | inr z =>
            obtain ⟨l, q2⟩ := z
            rw [e0, hp2] at hh
            injection hh with hh
            injection hh with z1 hh
            injection hh with z2 z3
            rw [← z1, ← z2, ← z3]
            obtain ⟨b1, b2, b3, b4, b5⟩ := x8 l q2 hp2
            exact ⟨b1, b2, b3, by omega, by omega⟩
        · cases hp2 : sStp T n kk 14 acc q with
          | inl e' =>
            rw [e0, hp2] at hh
            injection hh with hh
            rw [← hh]
            obtain ⟨b1, b2, b3⟩ := x9 e' hp2
            exact ⟨b1, by omega, by omega⟩
          | inr z =>
            obtain ⟨l, q2⟩ := z
            rw [e0, hp2] at hh
            cases hh
  have hvK : ¬ (97 ≤ v ∧ v ≤ 122) := fun z => hpl (by rw [← hpc]; unfold pL; exact decide_eq_true z)
  -- the loop from no steps on
  have lp : ∀ (κ1 : mS) (q : Int), cP κ1 T n q → p ≤ q → mEq [4, 5, 7, 8, 9, 15] κ κ1 → κ1 7 0 = κ 7 0 → κ1 9 0 = ((kk : Nat) : Int) → (∀ res, jx_r (jz β) jw_M (d + 11) 128 (52, [some (.ref 6), some (.ref N), some (.int (Int32.ofInt (((0 : Nat) : Int))))], [], (cl_mk h1 κ1)) res → jx_r (jz β) jw_M (d + 11) 128 (0, [some (.ref 6), none, none], [], (cl_mk h κ)) res) → (∃ f, 14 ≤ f ∧ sStg T n p kk = (match sStp T n kk f [] q with
      | .inl e => .inl e
      | .inr (l, q2) => .inr ((-1, [], l), q2, kk + l.length))) → ∃ (κ' : mS) (h' : jx_H), jx_r (jz β) jw_M (d + 11) 128 (0, [some (.ref 6), none, none], [], (cl_mk h κ)) (cl_mk h' (κ'), .inl (some (.ref (N)))) ∧ (∀ (c : Nat) (y : jx_C), h[c]? = some y → h'[c]? = some y) ∧ N ≤ h'.length ∧ mEq [4, 5, 7, 8, 9, 15] κ κ' ∧ (0 ≤ κ' 7 0 ∧ κ' 7 0 ≤ 16) ∧ (∃ fs, h'[N]? = some (.inr (13, fs))) ∧ (∀ st q k2, sStg T n p kk = .inr (st, q, k2) → sgR h' X N st ∧ cP κ' T n q ∧ κ' 9 0 = ((k2 : Nat) : Int) ∧ (h'.length : Int) ≤ N + 2 + 65 * (q - p) ∧ (cvol h' : Int) ≤ cvol h + 130 + 250 * (q - p)) ∧ (∀ e, sStg T n p kk = .inl e → cE κ' T n e ∧ (h'.length : Int) ≤ N + 2 + 65 * (n - p) + 130 ∧ (cvol h' : Int) ≤ cvol h + 130 + 250 * (n - p) + 500) := by
    intro κ1 q hPq hpq m1 s1 n1 go ⟨f, hf, e0⟩
    obtain ⟨κ3, h3, cap3, x1, x2, x3, x4, x5, x6, x7, x8, x9⟩ := jc_stL (β := β) (d := d) (k := kk) f 0 [] q h1 κ1 (jx_big + 53) 0 _ (by show 14 ≤ f + 0; omega) (by decide) hk hl1 (by omega) hU1 hPq (by rw [s1]; exact hsc) n1
    refine ⟨κ3, h3, go _ x1, fun c y hy => x2 c y (by have := (List.getElem?_eq_some_iff.mp hy).1; omega) (q1 c y hy), by omega, mEq_trans m1 x5, x6, x7, fun st' q' k2 hh => ?_, fun e hh => ?_⟩
    · cases hp2 : sStp T n kk f [] q with
      | inl e => rw [e0, hp2] at hh; cases hh
      | inr z =>
        obtain ⟨l, q2⟩ := z
        rw [e0, hp2] at hh
        injection hh with hh
        injection hh with z1 hh
        injection hh with z2 z3
        rw [← z1, ← z2, ← z3]
        obtain ⟨b1, b2, b3, b4, b5⟩ := x8 l q2 hp2
        exact ⟨b1, b2, b3, by omega, by omega⟩
    · cases hp2 : sStp T n kk f [] q with
      | inl e' =>
        rw [e0, hp2] at hh
        injection hh with hh
        rw [← hh]
        obtain ⟨b1, b2, b3⟩ := x9 e' hp2
        exact ⟨b1, by omega, by omega⟩
      | inr z =>
        obtain ⟨l, q2⟩ := z
        rw [e0, hp2] at hh
        cases hh
  by_cases h91 : tH T n p = 91
  · have hv : v = 91 := ev.trans ((tC_eq hP.1.2.2 hP.2.2.2.1 (by decide)).mpr h91)
    refine lp κ p hP (Int.le_refl _) (mEq_refl _ _) rfl e9 (fun res kk0 => pre _ ?_) ⟨15, by decide, ?_⟩
    · refine jr_1 jm_128 (show jw_cd cd_128 8 = some (.aload_n 0) by decide +kernel) rfl ?_
      refine jr_1 jm_128 (show jw_cd cd_128 9 = some (.getfield 9) by decide +kernel) (cgr_6_0 (show jw_fld 7 9 4 = some 0 by decide +kernel)) ?_
      refine jr_c jm_128 (show jw_cd cd_128 12 = some (.invokevirtual 45) by decide +kernel) (ccv (n := 0) (m2 := 58) (ci := 1) (a := 1) (bs := []) (r := []) (js_cls cl_c1 (by decide)) (show jw_find jw_cvT 7 45 = some (0, [(1, 58)]) by decide +kernel) (by decide) rfl rfl rfl) jm_58 ⟨Nat.le_of_ble_eq_true rfl, by decide⟩ c1 ?_
      refine jr_c jm_128 (show jw_cd cd_128 15 = some (.invokestatic 49) by decide +kernel) (mc_s (n := 1) (m2 := 99) (bs := [.int (Int32.ofInt (v))]) (r := []) (by decide) (show jw_find jw_csT 7 49 = some (99, 1) by decide +kernel) rfl rfl rfl) jm_99 ⟨Nat.le_of_ble_eq_true rfl, by decide⟩ (jc_isK_f hl1 hr0 hvK) ?_
      refine jr_1 jm_128 (show jw_cd cd_128 18 = some (.ifCond .eq 11) by decide +kernel) (mz_t (q := .eq) (a := 0) (t := 29) (by show 0 = 0; omega) ⟨by omega, by omega⟩ (by decide) (by decide)) ?_
      refine jr_1 jm_128 (show jw_cd cd_128 29 = some (.aload_n 0) by decide +kernel) rfl ?_
      refine jr_1 jm_128 (show jw_cd cd_128 30 = some (.getfield 9) by decide +kernel) (cgr_6_0 (show jw_fld 7 9 4 = some 0 by decide +kernel)) ?_
      refine jr_c jm_128 (show jw_cd cd_128 33 = some (.invokevirtual 45) by decide +kernel) (ccv (n := 0) (m2 := 58) (ci := 1) (a := 1) (bs := []) (r := []) (js_cls cl_c1 (by decide)) (show jw_find jw_cvT 7 45 = some (0, [(1, 58)]) by decide +kernel) (by decide) rfl rfl rfl) jm_58 ⟨Nat.le_of_ble_eq_true rfl, by decide⟩ c1 ?_
      refine jr_1 jm_128 (show jw_cd cd_128 36 = some (.bipush 91) by decide +kernel) (mt_bi (by decide)) ?_
      refine jr_1 jm_128 (show jw_cd cd_128 38 = some (.if_icmp .eq 12) by decide +kernel) (mb_t (q := .eq) (a := v) (b := 91) (t := 50) (by show v = 91; exact hv) ⟨by omega, by omega⟩ ⟨by omega, by omega⟩ (by decide) (by decide)) ?_
      refine jr_1 jm_128 (show jw_cd cd_128 50 = some (.iconst 0) by decide +kernel) rfl ?_
      refine jr_1 jm_128 (F2 := (52, [some (.ref 6), some (.ref N), some (.int (Int32.ofInt (0)))], [], (cl_mk h1 κ))) (show jw_cd cd_128 51 = some (.istore_n 2) by decide +kernel) rfl ?_
      exact kk0
    · unfold sStg sFst
      rw [if_neg hpl, if_pos h91]
      have e1 : sStp T n kk 15 [] p = (match sBr T n p kk with
        | .inl e => .inl e
        | .inr (e, q) => sStp T n kk 14 [e] q) := by
        refine (if_pos (Or.inr h91)).trans ?_
        rw [show sNxt T n p (kk + ([] : List sE).length) = sBr T n p kk from if_pos h91]
        rfl
      rw [e1]
      cases sBr T n p kk with
      | inl e => rfl
      | inr x => rfl
  have hv : ¬ v = 91 := fun e => h91 ((tC_eq ht hp0 (by decide)).mp (ev.symm.trans e))
  by_cases h64 : tH T n p = 64
  · have hpl2 : p < n := (tH_r ht hp0).2.2.2 (by rw [h64]; decide)
    have c2 := jc_mustT (β := β) (d := d + 9) hl1 hP ((tC_eq hP.1.2.2 hP.2.2.2.1 (by decide)).mpr h64) (by decide)
    obtain ⟨κ1, ek⟩ : ∃ κ1, κ1 = su κ 4 0 (p + 1) := ⟨_, rfl⟩
    rw [← ek] at c2
    refine lp κ1 (p + 1) (by rw [ek]; exact cP_mv hP (by omega) (by omega)) (by omega) (by rw [ek]; exact mEq_su (mEq_refl _ _) (by decide)) (by rw [ek, su_nf (by decide)]) (by rw [ek, su_nf (by decide)]; exact e9) (fun res kk0 => pre _ ?_) ⟨14, by decide, ?_⟩
    · refine jr_1 jm_128 (show jw_cd cd_128 8 = some (.aload_n 0) by decide +kernel) rfl ?_
      refine jr_1 jm_128 (show jw_cd cd_128 9 = some (.getfield 9) by decide +kernel) (cgr_6_0 (show jw_fld 7 9 4 = some 0 by decide +kernel)) ?_
      refine jr_c jm_128 (show jw_cd cd_128 12 = some (.invokevirtual 45) by decide +kernel) (ccv (n := 0) (m2 := 58) (ci := 1) (a := 1) (bs := []) (r := []) (js_cls cl_c1 (by decide)) (show jw_find jw_cvT 7 45 = some (0, [(1, 58)]) by decide +kernel) (by decide) rfl rfl rfl) jm_58 ⟨Nat.le_of_ble_eq_true rfl, by decide⟩ c1 ?_
      refine jr_c jm_128 (show jw_cd cd_128 15 = some (.invokestatic 49) by decide +kernel) (mc_s (n := 1) (m2 := 99) (bs := [.int (Int32.ofInt (v))]) (r := []) (by decide) (show jw_find jw_csT 7 49 = some (99, 1) by decide +kernel) rfl rfl rfl) jm_99 ⟨Nat.le_of_ble_eq_true rfl, by decide⟩ (jc_isK_f hl1 hr0 hvK) ?_
      refine jr_1 jm_128 (show jw_cd cd_128 18 = some (.ifCond .eq 11) by decide +kernel) (mz_t (q := .eq) (a := 0) (t := 29) (by show 0 = 0; omega) ⟨by omega, by omega⟩ (by decide) (by decide)) ?_
      refine jr_1 jm_128 (show jw_cd cd_128 29 = some (.aload_n 0) by decide +kernel) rfl ?_
      refine jr_1 jm_128 (show jw_cd cd_128 30 = some (.getfield 9) by decide +kernel) (cgr_6_0 (show jw_fld 7 9 4 = some 0 by decide +kernel)) ?_
      refine jr_c jm_128 (show jw_cd cd_128 33 = some (.invokevirtual 45) by decide +kernel) (ccv (n := 0) (m2 := 58) (ci := 1) (a := 1) (bs := []) (r := []) (js_cls cl_c1 (by decide)) (show jw_find jw_cvT 7 45 = some (0, [(1, 58)]) by decide +kernel) (by decide) rfl rfl rfl) jm_58 ⟨Nat.le_of_ble_eq_true rfl, by decide⟩ c1 ?_
      refine jr_1 jm_128 (show jw_cd cd_128 36 = some (.bipush 91) by decide +kernel) (mt_bi (by decide)) ?_
      refine jr_1 jm_128 (show jw_cd cd_128 38 = some (.if_icmp .eq 12) by decide +kernel) (mb_f (q := .eq) (a := v) (b := 91) (by show ¬ (v = 91); exact hv) ⟨by omega, by omega⟩ ⟨by omega, by omega⟩ (by decide)) ?_
      refine jr_1 jm_128 (show jw_cd cd_128 41 = some (.aload_n 0) by decide +kernel) rfl ?_
      refine jr_1 jm_128 (show jw_cd cd_128 42 = some (.getfield 9) by decide +kernel) (cgr_6_0 (show jw_fld 7 9 4 = some 0 by decide +kernel)) ?_
      refine jr_1 jm_128 (show jw_cd cd_128 45 = some (.bipush 64) by decide +kernel) (mt_bi (by decide)) ?_
      refine jr_c jm_128 (show jw_cd cd_128 47 = some (.invokevirtual 56) by decide +kernel) (ccv (n := 1) (m2 := 96) (ci := 1) (a := 1) (bs := [.int (Int32.ofInt (64))]) (r := []) (js_cls cl_c1 (by decide)) (show jw_find jw_cvT 7 56 = some (1, [(1, 96)]) by decide +kernel) (by decide) rfl rfl rfl) jm_96 ⟨Nat.le_of_ble_eq_true rfl, by decide⟩ c2 ?_
      refine jr_1 jm_128 (show jw_cd cd_128 50 = some (.iconst 0) by decide +kernel) rfl ?_
      refine jr_1 jm_128 (F2 := (52, [some (.ref 6), some (.ref N), some (.int (Int32.ofInt (0)))], [], (cl_mk h1 κ1))) (show jw_cd cd_128 51 = some (.istore_n 2) by decide +kernel) rfl ?_
      exact kk0
    · unfold sStg sFst
      rw [if_neg hpl, if_neg h91, if_pos h64]
      rfl
  · have e0 : sStg T n p kk = .inl p := by
      unfold sStg sFst
      rw [if_neg hpl, if_neg h91, if_neg h64]
    have c2 := jc_mustF (β := β) (d := d + 9) hl1 hP (fun e => h64 ((tC_eq hP.1.2.2 hP.2.2.2.1 (by decide)).mp e)) (by decide)
    obtain ⟨κ1, ek⟩ : ∃ κ1, κ1 = su κ 5 0 p := ⟨_, rfl⟩
    rw [← ek] at c2
    have hE : cE κ1 T n p := by rw [ek]; exact cP_w hP (by omega) (by omega)
    refine ⟨κ1, h1, pre _ ?_, q1, by omega, by rw [ek]; exact mEq_su (mEq_refl _ _) (by decide), by rw [ek, su_nf (by decide)]; exact hsc, ⟨_, oA1⟩, fun st q k2 hh => (by rw [e0] at hh; cases hh), fun e hh => ?_⟩
    · refine jr_1 jm_128 (show jw_cd cd_128 8 = some (.aload_n 0) by decide +kernel) rfl ?_
      refine jr_1 jm_128 (show jw_cd cd_128 9 = some (.getfield 9) by decide +kernel) (cgr_6_0 (show jw_fld 7 9 4 = some 0 by decide +kernel)) ?_
      refine jr_c jm_128 (show jw_cd cd_128 12 = some (.invokevirtual 45) by decide +kernel) (ccv (n := 0) (m2 := 58) (ci := 1) (a := 1) (bs := []) (r := []) (js_cls cl_c1 (by decide)) (show jw_find jw_cvT 7 45 = some (0, [(1, 58)]) by decide +kernel) (by decide) rfl rfl rfl) jm_58 ⟨Nat.le_of_ble_eq_true rfl, by decide⟩ c1 ?_
      refine jr_c jm_128 (show jw_cd cd_128 15 = some (.invokestatic 49) by decide +kernel) (mc_s (n := 1) (m2 := 99) (bs := [.int (Int32.ofInt (v))]) (r := []) (by decide) (show jw_find jw_csT 7 49 = some (99, 1) by decide +kernel) rfl rfl rfl) jm_99 ⟨Nat.le_of_ble_eq_true rfl, by decide⟩ (jc_isK_f hl1 hr0 hvK) ?_
      refine jr_1 jm_128 (show jw_cd cd_128 18 = some (.ifCond .eq 11) by decide +kernel) (mz_t (q := .eq) (a := 0) (t := 29) (by show 0 = 0; omega) ⟨by omega, by omega⟩ (by decide) (by decide)) ?_
      refine jr_1 jm_128 (show jw_cd cd_128 29 = some (.aload_n 0) by decide +kernel) rfl ?_
      refine jr_1 jm_128 (show jw_cd cd_128 30 = some (.getfield 9) by decide +kernel) (cgr_6_0 (show jw_fld 7 9 4 = some 0 by decide +kernel)) ?_
      refine jr_c jm_128 (show jw_cd cd_128 33 = some (.invokevirtual 45) by decide +kernel) (ccv (n := 0) (m2 := 58) (ci := 1) (a := 1) (bs := []) (r := []) (js_cls cl_c1 (by decide)) (show jw_find jw_cvT 7 45 = some (0, [(1, 58)]) by decide +kernel) (by decide) rfl rfl rfl) jm_58 ⟨Nat.le_of_ble_eq_true rfl, by decide⟩ c1 ?_
      refine jr_1 jm_128 (show jw_cd cd_128 36 = some (.bipush 91) by decide +kernel) (mt_bi (by decide)) ?_
      refine jr_1 jm_128 (show jw_cd cd_128 38 = some (.if_icmp .eq 12) by decide +kernel) (mb_f (q := .eq) (a := v) (b := 91) (by show ¬ (v = 91); exact hv) ⟨by omega, by omega⟩ ⟨by omega, by omega⟩ (by decide)) ?_
      refine jr_1 jm_128 (show jw_cd cd_128 41 = some (.aload_n 0) by decide +kernel) rfl ?_
      refine jr_1 jm_128 (show jw_cd cd_128 42 = some (.getfield 9) by decide +kernel) (cgr_6_0 (show jw_fld 7 9 4 = some 0 by decide +kernel)) ?_
      refine jr_1 jm_128 (show jw_cd cd_128 45 = some (.bipush 64) by decide +kernel) (mt_bi (by decide)) ?_
      refine jr_c jm_128 (show jw_cd cd_128 47 = some (.invokevirtual 56) by decide +kernel) (ccv (n := 1) (m2 := 96) (ci := 1) (a := 1) (bs := [.int (Int32.ofInt (64))]) (r := []) (js_cls cl_c1 (by decide)) (show jw_find jw_cvT 7 56 = some (1, [(1, 96)]) by decide +kernel) (by decide) rfl rfl rfl) jm_96 ⟨Nat.le_of_ble_eq_true rfl, by decide⟩ c2 ?_
      refine jr_1 jm_128 (show jw_cd cd_128 50 = some (.iconst 0) by decide +kernel) rfl ?_
      refine jr_1 jm_128 (F2 := (52, [some (.ref 6), some (.ref N), some (.int (Int32.ofInt (0)))], [], (cl_mk h1 κ1))) (show jw_cd cd_128 51 = some (.istore_n 2) by decide +kernel) rfl ?_
      exact jc_stX hl1 ⟨by omega, by omega⟩ (by decide : 0 < 160) oA1 (jc_hereW hl1 hE.2.1) (by decide)
    · rw [e0] at hh
      injection hh with hh
      rw [← hh]
      exact ⟨hE, by omega, by omega⟩
