/-! ===== the model writes a value: all of it (printed by program: gen25.py) ===== -/
theorem jn_wr {β : Bool} {d : Nat} {h : jx_H} {σ : mS} (hl : 49 ≤ h.length) {A B : Int → Prop} (hA : mIx A) (hB : mIx B) : ∀ (R : FT) (dp v x : Int) (i0 : tI) (F : FT) (first : Bool) (τ : mS) (l : List Int) (c3 c4 : Option Value), fwf R → 0 ≤ i0.1 ∧ i0.1 ≤ 6 → mF σ A B R x → A v → σ 3 v = i0.1 → mF σ A B F (σ 6 v) → fsz R ≤ fsz F → (fsz R ≠ 0 → (first = true ↔ x = σ 6 v)) → mEq [43, 44, 45, 46] σ τ → τ 43 dp = v → τ 44 dp = x → pap τ l → 0 ≤ dp → dp + fct R < 399 → l.length + (wF (decide (i0.1 = 6)) first R).length + 20 ≤ 500 →
    ∃ (τ' : mS) (c3' c4' : Option Value), (∀ res, jx_r (jz β) jw_M (d + 4 + 1) 275 (59, [some (.ref 15), some (.int (Int32.ofInt (dp))), some (.int (Int32.ofInt (1))), c3', c4'], [], ml_mk h τ') res → jx_r (jz β) jw_M (d + 4 + 1) 275 (59, [some (.ref 15), some (.int (Int32.ofInt (dp))), some (.int (Int32.ofInt (1))), c3, c4], [], ml_mk h τ) res) ∧ mEq [43, 44, 45, 46] σ τ' ∧ (∀ t, t ≤ dp → τ' 43 t = τ 43 t) ∧ (∀ t, t < dp → τ' 44 t = τ 44 t) ∧ τ' 44 dp = -1 ∧ pap τ' (l ++ wF (decide (i0.1 = 6)) first R)
  | .leaf, dp, v, x, i0, F, first, τ, l, c3, c4, _, _, hx, _, _, _, _, _, hq, _, q44, hp, _, _, _ => by
    have hx : x = -1 := hx
    exact ⟨τ, c3, c4, fun res kk => kk, hq, fun _ _ => rfl, fun _ _ => rfl, by rw [q44, hx], by rw [show wF (decide (i0.1 = 6)) first .leaf = [] from rfl, List.append_nil]; exact hp⟩
  | .inner s0 i u0 c n, dp, v, x, i0, F, first, τ, l, c3, c4, hwf, hi0, hx, av, hv3, hF, hRF, hfi, hq, q43, q44, hp, hd0, hd, h5 => by
    obtain ⟨b1, a1, hkey, ⟨n3, n4, n5, n7⟩, hc, hn⟩ := hx
    obtain ⟨hi, wc, wn⟩ := hwf
    have bx := hB x b1
    have aw := hA _ a1
    have vv := hA _ av
    have hRF : fsz n + 1 ≤ fsz F := hRF
    have hd : dp + ((1 + fct c + fct n : Nat) : Int) < 399 := hd
    have hfi := hfi (by show fsz n + 1 ≠ 0; omega)
    have hh6 : -1 ≤ σ 6 v ∧ σ 6 v < 1740 := by
      cases F with
      | leaf => exact absurd hRF (by show ¬ fsz n + 1 ≤ 0; omega)
      | inner s1 i1 u1 c1 n1 =>
        have := hB _ hF.1
        omega
    obtain ⟨w1, hw1⟩ : ∃ w1 : List Int, w1 = (bif first then [] else [44]) := ⟨_, rfl⟩
    obtain ⟨w2, hw2⟩ : ∃ w2 : List Int, w2 = (bif decide (i0.1 = 6) then i.2.2.2 ++ [58] else []) := ⟨_, rfl⟩
    obtain ⟨w3, hw3⟩ : ∃ w3 : List Int, w3 = (if 5 ≤ i.1 then wF (decide (i.1 = 6)) true c ++ [wC i] else []) := ⟨_, rfl⟩
    obtain ⟨w4, hw4⟩ : ∃ w4 : List Int, w4 = wF (decide (i0.1 = 6)) false n := ⟨_, rfl⟩
    have eW : wF (decide (i0.1 = 6)) first (.inner s0 i u0 c n) = w1 ++ (w2 ++ (wL i ++ (w3 ++ w4))) := by
      rw [hw1, hw2, hw3, hw4]
      rfl
    rw [eW] at h5 ⊢
    simp only [List.length_append] at h5
    obtain ⟨τ1, k1, e1, p1⟩ := jn_wr_a (β := β) (d := d) (σ := σ) (dp := dp) hl vv bx hh6 ((congrFun (hq 6 (by decide)) v)) hfi hp (by omega)
    rw [← hw1] at p1
    have q1 : mEq [43, 44, 45, 46] σ τ1 := mEq_trans hq (mEq_sub e1 (by decide))
    obtain ⟨τ2, k2, e2, p2⟩ := jn_wr_b (β := β) (d := d) (σ := σ) (dp := dp) hl vv bx hi0 ((congrFun (q1 3 (by decide)) v).trans hv3) ((congrFun (q1 9 (by decide)) x).trans hkey) hi.2.2.2.2 p1 (by simp only [List.length_append]; omega)
    rw [← hw2] at p2
    have q2 : mEq [43, 44, 45, 46] σ τ2 := mEq_trans q1 (mEq_sub e2 (by decide))
    obtain ⟨τ3, k3, e3, p3⟩ := jn_wr_c (β := β) (d := d) (σ := σ) (v := v) (dp := dp) (fx := σ 10 x) (w := σ 8 x) hl vv bx aw ⟨by omega, by omega⟩ (congrFun (q2 10 (by decide)) x) (congrFun (q2 8 (by decide)) x) ((congrFun (q2 3 (by decide)) _).trans n3) ((congrFun (q2 4 (by decide)) _).trans n4) ((congrFun (q2 5 (by decide)) _).trans n5) hi p2 (by simp only [List.length_append]; omega)
    have q3 : mEq [43, 44, 45, 46] σ τ3 := mEq_trans (mEq_su q2 (by decide)) (mEq_sub e3 (by decide))
    have t43 : ∀ t, τ3 43 t = τ 43 t := fun t => by rw [e3 43 (by decide), su_nf (by decide), e2 43 (by decide), e1 43 (by decide)]
    have t44 : ∀ t, τ3 44 t = if t = dp then σ 10 x else τ 44 t := fun t => by
      rw [e3 44 (by decide)]
      by_cases ht : t = dp
      · rw [if_pos ht, ht, su_eq]
      · rw [if_neg ht, su_ni ht, e2 44 (by decide), e1 44 (by decide)]
    have hne : fsz n ≠ 0 → (false = true ↔ σ 10 x = σ 6 v) := fun hz => by
      refine ⟨fun z => (by cases z), fun z => ?_⟩
      rw [← z] at hF
      have := mF_sz hB hB n F _ hn hF
      omega
    by_cases hk : i.1 < 5
    · have h30 : w3 = [] := by rw [hw3, if_neg (by omega)]
      obtain ⟨τ', c3', c4', r1, r2, r3, r4, r5, r6⟩ := jn_wr (β := β) (d := d) hl hA hB n dp v (σ 10 x) i0 F false τ3 (l ++ w1 ++ w2 ++ wL i) (some (.int (Int32.ofInt v))) (some (.int (Int32.ofInt x))) wn hi0 hn av hv3 hF (by omega) hne q3 (by rw [t43]; exact q43) (by rw [t44, if_pos rfl]) p3 hd0 (by omega) (by rw [← hw4]; simp only [List.length_append]; omega)
      refine ⟨τ', c3', c4', fun res kk => ?_, r2, fun t ht => (r3 t ht).trans (t43 t), fun t ht => (r4 t ht).trans ((t44 t).trans (if_neg (by omega))), r5, ?_⟩
      · exact jn_wr_0 (σ := σ) hl bx ⟨by omega, by omega⟩ q43 q44 res (k1 res (k2 res (k3 res (jn_wr_d0 (σ := σ) hl bx aw ⟨by omega, by omega⟩ (congrFun (q3 8 (by decide)) x) ((congrFun (q3 3 (by decide)) _).trans n3) ⟨hi.1, hi.2.1⟩ hk res (r1 res kk)))))
      · rw [← hw4] at r6
        rw [h30, List.nil_append]
        simp only [List.append_assoc] at r6 ⊢
        exact r6
    · have h31 : w3 = wF (decide (i.1 = 6)) true c ++ [wC i] := by rw [hw3, if_pos (by omega)]
      rw [h31] at h5 ⊢
      simp only [List.length_append, List.length_cons, List.length_nil] at h5
      obtain ⟨τ4, hτ4⟩ : ∃ τ4, τ4 = su (su τ3 43 (dp + 1) (σ 8 x)) 44 (dp + 1) (σ 6 (σ 8 x)) := ⟨_, rfl⟩
      have q4 : mEq [43, 44, 45, 46] σ τ4 := by rw [hτ4]; exact mEq_su (mEq_su q3 (by decide)) (by decide)
      have p4 : pap τ4 (l ++ w1 ++ w2 ++ wL i) := by
        rw [hτ4]
        exact ⟨((su_nf (by decide)).trans (su_nf (by decide))).trans p3.1, fun j hj => ((su_nf (by decide)).trans (su_nf (by decide))).trans (p3.2 j hj)⟩
      have s43 : ∀ t, τ4 43 t = if t = dp + 1 then σ 8 x else τ 43 t := fun t => by
        rw [hτ4, su_nf (by decide)]
        by_cases ht : t = dp + 1
        · rw [if_pos ht, ht, su_eq]
        · rw [if_neg ht, su_ni ht, t43]
      have s44 : ∀ t, τ4 44 t = if t = dp + 1 then σ 6 (σ 8 x) else if t = dp then σ 10 x else τ 44 t := fun t => by
        rw [hτ4]
        by_cases ht : t = dp + 1
        · rw [if_pos ht, ht, su_eq]
        · rw [if_neg ht, su_ni ht, su_nf (by decide), t44]
      obtain ⟨τ5, c5, c6, r1, r2, r3, r4, r5, r6⟩ := jn_wr (β := β) (d := d) hl hA hB c (dp + 1) (σ 8 x) (σ 6 (σ 8 x)) i c true τ4 (l ++ w1 ++ w2 ++ wL i) (some (.int (Int32.ofInt v))) (some (.int (Int32.ofInt x))) wc ⟨hi.1, hi.2.1⟩ hc a1 n3 hc (Nat.le_refl _) (fun _ => ⟨fun _ => rfl, fun _ => rfl⟩) q4 (by rw [s43, if_pos rfl]) (by rw [s44, if_pos rfl]) p4 (by omega) (by omega) (by simp only [List.length_append]; omega)
      obtain ⟨τ6, hτ6⟩ : ∃ τ6, τ6 = mMark τ5 (if i.1 = 5 then 93 else 125) := ⟨_, rfl⟩
      have q6 : mEq [43, 44, 45, 46] σ τ6 := by rw [hτ6]; exact mEq_mark r2 (by decide) (by decide)
      have p6 : pap τ6 (l ++ w1 ++ w2 ++ wL i ++ wF (decide (i.1 = 6)) true c ++ [wC i]) := by rw [hτ6]; exact pap_mark r6
      have u43 : ∀ t, t ≤ dp → τ6 43 t = τ 43 t := fun t ht => by
        rw [hτ6, show mMark τ5 (if i.1 = 5 then 93 else 125) 43 t = τ5 43 t from (su_nf (by decide)).trans (su_nf (by decide)), r3 t (by omega), s43, if_neg (by omega)]
      have u44 : ∀ t, t ≤ dp → τ6 44 t = if t = dp then σ 10 x else τ 44 t := fun t ht => by
        rw [hτ6, show mMark τ5 (if i.1 = 5 then 93 else 125) 44 t = τ5 44 t from (su_nf (by decide)).trans (su_nf (by decide)), r4 t (by omega), s44, if_neg (by omega)]
      obtain ⟨τ', c3', c4', v1, v2, v3, v4, v5, v6⟩ := jn_wr (β := β) (d := d) hl hA hB n dp v (σ 10 x) i0 F false τ6 (l ++ w1 ++ w2 ++ wL i ++ wF (decide (i.1 = 6)) true c ++ [wC i]) (some (.int (Int32.ofInt (σ 8 x)))) (some (.int (Int32.ofInt (-1)))) wn hi0 hn av hv3 hF (by omega) hne q6 (by rw [u43 dp (Int.le_refl dp)]; exact q43) (by rw [u44 dp (Int.le_refl dp), if_pos rfl]) p6 hd0 (by omega) (by rw [← hw4]; simp only [List.length_append, List.length_cons, List.length_nil]; omega)
      refine ⟨τ', c3', c4', fun res kk => ?_, v2, fun t ht => (v3 t ht).trans (u43 t ht), fun t ht => (v4 t ht).trans ((u44 t (by omega)).trans (if_neg (by omega))), v5, ?_⟩
      · have z1 := v1 res kk
        rw [hτ6] at z1
        have z2 := jn_wr_e1 (β := β) (d := d) (σ := σ) (τ := τ5) (v := σ 8 x) (dp := dp + 1) (kd := i.1) (c3 := c5) (c4 := c6) hl aw ⟨by omega, by omega⟩ (by rw [r3 (dp + 1) (Int.le_refl _), s43, if_pos rfl]) r5 ((congrFun (r2 3 (by decide)) _).trans n3) ⟨hi.1, hi.2.1⟩ r6 (by simp only [List.length_append]; omega) res
        rw [show dp + 1 - 1 = dp by omega] at z2
        have z3 := r1 res (z2 z1)
        rw [hτ4] at z3
        exact jn_wr_0 (σ := σ) hl bx ⟨by omega, by omega⟩ q43 q44 res (k1 res (k2 res (k3 res (jn_wr_d1 (σ := σ) hl bx aw ⟨by omega, by omega⟩ (congrFun (q3 8 (by decide)) x) ((congrFun (q3 3 (by decide)) _).trans n3) (congrFun (q3 6 (by decide)) _) ⟨hi.1, hi.2.1⟩ (by omega) res z3))))
      · rw [← hw4] at v6
        simp only [List.append_assoc] at v6 ⊢
        exact v6
