/-! ===== query and run on both sides ===== -/
section OPS2
variable {L : Nat} {xs : Nat → Int32} {n : Nat} {H : jx_H}
theorem op_query (x : Int32) (h : jI n H) (hn2 : n + 2 ≤ 1024) : ∃ H', jw_op L xs 15 49 2 x H H' ∧ jI (n + 2) H' := by
  obtain ⟨g, σ, κ, nL, doc, res, qs, r, cap, fb, f0, W, t, p, rfl, hg, hl, h49, hm, hc, hW, hn, h1, h2⟩ := h
  have ht := hm.2.1
  have hn0 := ht.1
  have hn1 := ht.2.1
  have h12 := hm.2.2.2.2.2.1
  obtain ⟨num1, num2⟩ := jI_num hW.2.2 hn.2
  have hb : (cl_mk g κ).length < jx_big := by
    rw [cl_len (by omega)]
    exact jbg (by omega)
  by_cases hQ : qs.length = 12
  · have e0 : κ 0 0 = 12 := by
      rw [hc.2.2.1, hQ]
      rfl
    have q : jw_sh L xs 122 [.ref 0] (cl_mk g κ) (cl_mk g κ ++ [.inr (10, [])], .inr (cl_mk g κ).length) := jw_shXB (d := 0) jm_122 (by decide : (1 : Nat) ≤ 3) (by decide) (by decide) hb (by decide) (jd_qryX hb e0)
    have q1 := jh_query_10 (o := 49) cls_0 hb q
    rw [← cl_appL (by omega)] at q1
    have hl1 : 50 ≤ (g ++ [(.inr (10, []) : jx_C)]).length := by rw [List.length_append]; omega
    have hr := (mo_query (β := jw_bt L xs) (d := 0) (h := cl_mk (g ++ [.inr (10, [])]) κ) (by rw [cl_len (by omega)]; omega) hm).1 hQ
    obtain ⟨t1, t2, t3, t4, t5⟩ := op_thr (L := L) (xs := xs) (ms := [.ref 15]) (k := 1) (ml_app hg hl) hl1 jm_232 (by decide : (1 : Nat) ≤ 3) (by decide) (by decide) hr (by rw [su_eq]; decide) (fun h => absurd h (by decide))
    exact ⟨_, ⟨_, _, 1, _, q1, t1, t2, t3, t4, t5⟩, op_refuse (by decide) hg hl h49 hm hc hW hn h1 h2 hn2⟩
  have hxr := sb_lt hl hc.2.2.2.2.2.1
  obtain ⟨κ1, h', p1, p2, p3, p4, p5, p6, p7, p8, p9⟩ := jc_query (β := jw_bt L xs) (d := 0) (κ := κ) (X := Xr r) hl rfl hxr (Q := qs.length) (by omega) hc.1 hc.2.1 hc.2.2.1 (by omega)
  have hl' : 50 ≤ h'.length := by omega
  have mh : ml_mk h' σ = h' := ml_fix hg (by omega) (by omega) (fun c y _ _ hy => p1 c y hy)
  have h49' : h'[49]? = some (.inl (1, 1, f0)) := p1 49 _ h49
  have hrow : ∀ f, f ∈ [1, 2, 12, 13, 14] → κ1 f = κ f := fun f hf => p5 f (fun hh => by
    simp only [List.mem_cons, List.mem_nil_iff, or_false] at hf hh
    omega)
  have hcf := cdS_fr hl hl' (fun c y _ hy => p1 c y hy) hc
  obtain ⟨K, M, k1, k2, k3, k4⟩ := nm_p p W
  rw [k1] at h1
  rw [k3] at h2
  cases hs : sQry (σ 1) nL with
  | inl e =>
    obtain ⟨c1, c2, c3⟩ := p8 e hs
    have q : jw_sh L xs 122 [.ref 0] (cl_mk g κ) (cl_mk h' κ1, .inl (some (.int (Int32.ofInt (-1 - e))))) := jw_shRB (d := 13) jm_122 (by decide : (1 : Nat) ≤ 3) (by decide) (by decide) c1
    have q1 := jh_query (o := 49) (f := f0) cls_0 q (by rw [cl_dy (by omega) (by omega)]; exact h49') (by decide)
    rw [cl_set (by omega) (by omega)] at q1
    obtain ⟨g1, hg1⟩ : ∃ g1, g1 = h'.set 49 (.inl (1, 1, updV f0 0 (.long (Int32.ofInt (-1 - e)).toInt64))) := ⟨_, rfl⟩
    rw [← hg1] at q1
    have eln : g1.length = h'.length := by rw [hg1, List.length_set]
    have hl1 : 50 ≤ g1.length := by omega
    have e49 : g1[49]? = some (.inl (1, 1, updV f0 0 (.long (Int32.ofInt (-1 - e)).toInt64))) := by
      rw [hg1]
      exact List.getElem?_set_self (by omega)
    have mg1 : ml_mk g1 σ = g1 := by
      rw [hg1]
      exact ml_set49 mh hl'
    have ev : cvol g1 = cvol h' := by
      rw [hg1]
      exact cvol_sA h49'
    obtain ⟨τ, r1, r2, r3⟩ := ((mo_query (β := jw_bt L xs) (d := 0) (h := cl_mk g1 κ1) (by rw [cl_len (by omega)]; omega) hm).2 hQ).1 e hs
    obtain ⟨t1, t2, t3, t4, t5⟩ := op_thr (L := L) (xs := xs) (ms := [.ref 15]) (k := 0) mg1 hl1 jm_232 (by decide : (1 : Nat) ≤ 3) (by decide) (by decide) r1 (by rw [r2]; decide) (fun _ => ⟨_, e49, rfl⟩)
    have hc1 : cdS g1 κ1 (τ 1) 0 doc res qs r cap fb := by
      rw [hg1]
      refine cdS_49 hl' (cdS_k hl' hcf (cP_0 _ p7) p6 (fun f hf => ?_))
      by_cases f0 : f = 0
      · rw [f0]
        exact c2
      · by_cases f11 : f = 11
        · rw [f11]
          exact c3
        · exact hrow f (by simp only [List.mem_cons, List.mem_nil_iff, or_false] at hf ⊢; omega)
    refine ⟨_, ⟨_, _, 0, _, q1, t1, t2, t3, t4, t5⟩, jI_mk (t := t) (p := p + 1) (W := W) mg1 hl1 e49 r3 hc1 hW ⟨by omega, by omega, by omega⟩ ?_ ?_⟩
    · rw [k2, eln]
      omega
    · rw [k4, ev]
      omega
  | inr l =>
    obtain ⟨c1, c2, ⟨b, c3, c4⟩, c5⟩ := p9 l hs
    have q : jw_sh L xs 122 [.ref 0] (cl_mk g κ) (cl_mk h' κ1, .inl (some (.int (Int32.ofInt ((qs.length : Nat) : Int))))) := jw_shRB (d := 13) jm_122 (by decide : (1 : Nat) ≤ 3) (by decide) (by decide) c1
    have q1 := jh_query (o := 49) (f := f0) cls_0 q (by rw [cl_dy (by omega) (by omega)]; exact h49') (by decide)
    rw [cl_set (by omega) (by omega)] at q1
    obtain ⟨g1, hg1⟩ : ∃ g1, g1 = h'.set 49 (.inl (1, 1, updV f0 0 (.long (Int32.ofInt ((qs.length : Nat) : Int)).toInt64))) := ⟨_, rfl⟩
    rw [← hg1] at q1
    have eln : g1.length = h'.length := by rw [hg1, List.length_set]
    have hl1 : 50 ≤ g1.length := by omega
    have e49 : g1[49]? = some (.inl (1, 1, updV f0 0 (.long (Int32.ofInt ((qs.length : Nat) : Int)).toInt64))) := by
      rw [hg1]
      exact List.getElem?_set_self (by omega)
    have mg1 : ml_mk g1 σ = g1 := by
      rw [hg1]
      exact ml_set49 mh hl'
    have ev : cvol g1 = cvol h' := by
      rw [hg1]
      exact cvol_sA h49'
    obtain ⟨τ, r1, r2, r3⟩ := ((mo_query (β := jw_bt L xs) (d := 0) (h := cl_mk g1 κ1) (by rw [cl_len (by omega)]; omega) hm).2 hQ).2 l hs
    obtain ⟨t1, t2, t3, t4, t5⟩ := op_thr (L := L) (xs := xs) (ms := [.ref 15]) (k := 0) mg1 hl1 jm_232 (by decide : (1 : Nat) ≤ 3) (by decide) (by decide) r1 (by rw [r2]; decide) (fun _ => ⟨_, e49, rfl⟩)
    obtain ⟨d1, d2, d3, d4, d5, d6, d7⟩ := hcf
    have hc1 : cdS g1 κ1 (τ 1) 0 doc res (qs ++ [l]) r cap fb := by
      rw [hg1]
      refine cdS_49 hl' ⟨cP_0 _ p7, p6, ?_, by rw [hrow 1 (by decide)]; exact d4, by rw [hrow 2 (by decide)]; exact d5, sbR_x hl' hl' d6 (fun _ _ _ hy => hy) (hrow 12 (by decide)) (hrow 13 (by decide)) (hrow 14 (by decide)), fun j l2 hj => ?_⟩
      · rw [c2, List.length_append]
        rfl
      · by_cases hjl : j < qs.length
        · rw [List.getElem?_append_left hjl] at hj
          rw [c5 (j : Int) (by omega)]
          exact d7 j l2 hj
        · have hjl2 := (List.getElem?_eq_some_iff.mp hj).1
          rw [List.length_append] at hjl2
          have hjl2 : j < qs.length + 1 := hjl2
          obtain rfl : j = qs.length := by omega
          rw [List.getElem?_append_right (Nat.le_refl _), Nat.sub_self] at hj
          have hj : some l = some l2 := hj
          cases hj
          exact ⟨sQry_p ht hs, b, c3, c4⟩
    refine ⟨_, ⟨_, _, 0, _, q1, t1, t2, t3, t4, t5⟩, jI_mk (t := t) (p := p + 1) (W := W) mg1 hl1 e49 r3 hc1 hW ⟨by omega, by omega, by omega⟩ ?_ ?_⟩
    · rw [k2, eln]
      omega
    · rw [k4, ev]
      omega
theorem op_run (x : Int32) (h : jI n H) (hn2 : n + 2 ≤ 1024) : ∃ H', jw_op L xs 15 49 3 x H H' ∧ jI (n + 2) H' := by
  obtain ⟨g, σ, κ, nL, doc, res, qs, r, cap, fb, f0, W, t, p, rfl, hg, hl, h49, hm, hc, hW, hn, h1, h2⟩ := h
  obtain ⟨x, hx, rfl⟩ := op_x x
  have ht := hm.2.1
  have hn0 := ht.1
  have hn1 := ht.2.1
  have h12 := hm.2.2.2.2.2.1
  obtain ⟨num1, num2⟩ := jI_num hW.2.2 hn.2
  have hb : (cl_mk g κ).length < jx_big := by
    rw [cl_len (by omega)]
    exact jbg (by omega)
  have e0 := hc.2.2.1
  by_cases hq : x < 0 ∨ (qs.length : Int) ≤ x
  · have q : jw_sh L xs 157 [.ref 0, .int (Int32.ofInt x)] (cl_mk g κ) (cl_mk g κ ++ [.inr (8, [])], .inr (cl_mk g κ).length) := by
      refine jw_shXB (d := 0) jm_157 (Nat.le_refl 2) (by decide) (by decide) hb (by decide) ?_
      by_cases hlt : x < 0
      · exact jd_runX hb hx hlt
      · exact jd_runY hb hx (by omega) ⟨by omega, by omega⟩ (by omega)
    have q1 := jh_run_8 (o := 49) cls_0 hb q
    rw [← cl_appL (by omega)] at q1
    have hl1 : 50 ≤ (g ++ [(.inr (8, []) : jx_C)]).length := by rw [List.length_append]; omega
    have hr := (mp_run (β := jw_bt L xs) (d := 0) (h := cl_mk (g ++ [.inr (8, [])]) κ) (by rw [cl_len (by omega)]; omega) hm hx).1 hq
    obtain ⟨t1, t2, t3, t4, t5⟩ := op_thr (L := L) (xs := xs) (ms := [.ref 15, .int (Int32.ofInt x)]) (k := 1) (ml_app hg hl) hl1 jm_245 (by decide : (2 : Nat) ≤ 8) (by decide) (by decide) hr (by rw [su_eq]; decide) (fun h => absurd h (by decide))
    exact ⟨_, ⟨_, _, 1, _, q1, t1, t2, t3, t4, t5⟩, op_refuse (by decide) hg hl h49 hm hc hW hn h1 h2 hn2⟩
  obtain ⟨d1, d2, d3, d4, d5, d6, d7⟩ := hc
  obtain ⟨l, hl2⟩ : ∃ l, qs[x.toNat]? = some l := ⟨_, List.getElem?_eq_getElem (by omega)⟩
  obtain ⟨b1, b, b2, b3⟩ := d7 x.toNat l hl2
  rw [show ((x.toNat : Nat) : Int) = x by omega] at b2
  have vi := hm.2.2.1.2.2
  have vp := vI_p vi
  obtain ⟨n1, n2⟩ := rn_all hW.2.2.1 b1 vp hW.1
  have rv := runS_v hW.2.2.1 l doc b1.1 vp hW.1
  have rw2 : (wV (runS l doc).2.1 (runS l doc).2.2).length ≤ W := rv
  obtain ⟨h', κ1, r', cap', fb', c, c1, s1, s2, s3, s4, s5, ⟨s6, s7⟩, s8, s9⟩ := jc_run (β := jw_bt L xs) (d := 0) (κ := κ) hl d6 (q := x) ⟨by omega, by omega, by omega⟩ b2 b3 b1.1 rfl d4 vp (by omega) (by omega)
  have hl' : 50 ≤ h'.length := by omega
  have mh : ml_mk h' σ = h' := ml_fix hg (by omega) (by omega) (fun c y z1 z2 hy => s9 c y z1 (by omega) hy)
  have h49' : h'[49]? = some (.inl (1, 1, f0)) := s9 49 _ (by omega) (by omega) h49
  have q : jw_sh L xs 157 [.ref 0, .int (Int32.ofInt x)] (cl_mk g κ) (cl_mk h' κ1, .inl (some (.int (Int32.ofInt (runS l doc).1)))) := jw_shRB (d := 29) jm_157 (Nat.le_refl 2) (by decide) (by decide) c1
  have q1 := jh_run (o := 49) (f := f0) cls_0 q (by rw [cl_dy (by omega) (by omega)]; exact h49') (by decide)
  rw [cl_set (by omega) (by omega)] at q1
  obtain ⟨g1, hg1⟩ : ∃ g1, g1 = h'.set 49 (.inl (1, 1, updV f0 0 (.long (Int32.ofInt (runS l doc).1).toInt64))) := ⟨_, rfl⟩
  rw [← hg1] at q1
  have eln : g1.length = h'.length := by rw [hg1, List.length_set]
  have hl1 : 50 ≤ g1.length := by omega
  have e49 : g1[49]? = some (.inl (1, 1, updV f0 0 (.long (Int32.ofInt (runS l doc).1).toInt64))) := by
    rw [hg1]
    exact List.getElem?_set_self (by omega)
  have mg1 : ml_mk g1 σ = g1 := by
    rw [hg1]
    exact ml_set49 mh hl'
  have ev : cvol g1 = cvol h' := by
    rw [hg1]
    exact cvol_sA h49'
  obtain ⟨τ, r1, r2, r3, r4⟩ := (mp_run (β := jw_bt L xs) (d := 0) (h := cl_mk g1 κ1) (by rw [cl_len (by omega)]; omega) hm hx).2 l (by omega) hl2
  obtain ⟨t1, t2, t3, t4, t5⟩ := op_thr (L := L) (xs := xs) (ms := [.ref 15, .int (Int32.ofInt x)]) (k := 0) mg1 hl1 jm_245 (by decide : (2 : Nat) ≤ 8) (by decide) (by decide) r1 (by rw [r2]; decide) (fun _ => ⟨_, e49, rfl⟩)
  have hc1 : cdS g1 κ1 (τ 1) nL doc (runS l doc).2 qs r' cap' fb' := by
    rw [hg1]
    refine cdS_49 hl' ⟨⟨⟨by rw [s4 3 (by decide)]; exact d1.1.1, fun i i0 i1 => by rw [s4 6 (by decide), r4]; exact d1.1.2.1 i i0 i1, r3.2.1⟩, by rw [s4 4 (by decide)]; exact d1.2.1, by rw [s4 5 (by decide)]; exact d1.2.2.1, d1.2.2.2⟩, by rw [s4 7 (by decide)]; exact d2, by rw [s4 0 (by decide)]; exact d3, by rw [s4 1 (by decide)]; exact vR_fr s5 d4, by rw [s2]; exact s3, s1, fun j l2 hj => ?_⟩
    rw [s4 11 (by decide)]
    obtain ⟨y1, y, y2, y3⟩ := d7 j l2 hj
    exact ⟨y1, y, y2, qyR_fr s5 y3⟩
  obtain ⟨K, M, k1, k2, k3, k4⟩ := nm_p p W
  rw [k1] at h1
  rw [k3] at h2
  refine ⟨_, ⟨_, _, 0, _, q1, t1, t2, t3, t4, t5⟩, jI_mk (t := t) (p := p + 1) (W := W) mg1 hl1 e49 r3 hc1 ⟨hW.1, rv, hW.2.2⟩ ⟨hn.1, by omega, by omega⟩ ?_ ?_⟩
  · rw [k2, eln]
    omega
  · rw [k4, ev]
    omega
theorem op_all (c : Nat) (h8 : c < 8) (x : Int32) (h : jI n H) (hn2 : n + 2 ≤ 1024) : ∃ H', jw_op L xs 15 49 c x H H' ∧ jI (n + 2) H' := by
  match c, h8 with
  | 0, _ => exact op_letter x h hn2
  | 1, _ => exact op_load x h hn2
  | 2, _ => exact op_query x h hn2
  | 3, _ => exact op_run x h hn2
  | 4, _ => exact op_keep x h hn2
  | 5, _ => exact op_result x h hn2
  | 6, _ => exact op_written x h hn2
  | 7, _ => exact op_about x h hn2
  | n + 8, h8 => exact absurd h8 (by omega)
end OPS2
