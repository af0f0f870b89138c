/-! ===== the eight calls on both sides ===== -/
theorem op_x (x : Int32) : ∃ xi : Int, mr xi ∧ x = Int32.ofInt xi := ⟨x.toInt, ⟨Int32.le_toInt x, by have := Int32.toInt_lt x; omega⟩, (Int32.ofInt_toInt x).symm⟩
theorem cls_0 {T : jx_T} {g : jx_H} {κ : mS} : jx_cls T (cl_mk g κ) 0 = some 0 := js_cls cl_c0 (by decide)
theorem ml_o15 {g : jx_H} {κ σ : mS} (hg : ml_mk g σ = g) (hl : 50 ≤ g.length) : (cl_mk g κ)[15]? = some (.inr (16, (List.range 47).map (ml_fv σ))) := by
  have e := ml_15 (h := g) (σ := σ) (by omega)
  rw [hg] at e
  rw [cl_dy (by omega) (by omega)]
  exact e
theorem cls_15 {T : jx_T} {g : jx_H} {κ σ : mS} (hg : ml_mk g σ = g) (hl : 50 ≤ g.length) : jx_cls T (cl_mk g κ) 15 = some 16 := js_cls (ml_o15 hg hl) (by decide)
/-- the model's call behind the class's -/
theorem op_mod {L : Nat} {xs : Nat → Int32} {g : jx_H} {κ σ τ : mS} {mm d : Nat} {E : jx_M} {ms : List Value} {b : Int32} (hg : ml_mk g σ = g) (hl : 50 ≤ g.length) (hM : jw_M mm = some E) (hs : (lg_sl ms).length ≤ E.2.1) (h1000 : mm < 1000) (hd : d ≤ 800) (hr : jx_r (jz (jw_bt L xs)) jw_M d mm (0, jx_in0 E.2.1 ms, [], ml_mk (cl_mk g κ) σ) (ml_mk (cl_mk g κ) τ, .inl (some (.int b)))) : jx_cls (jw_TT L xs) (cl_mk g κ) 15 = some 16 ∧ jw_su L xs mm ms (cl_mk g κ) (cl_mk (ml_mk g τ) κ, .inl (some (.int b))) ∧ jx_cls (jw_TT L xs) (cl_mk (ml_mk g τ) κ) 15 = some 16 := by
  have e := ml_len (h := g) (σ := τ) (by omega)
  exact ⟨cls_15 hg hl, jw_suRB hM hs h1000 hd (jm_step hg hl hr), cls_15 (σ := τ) (ml_idem (by omega)) (by omega)⟩
theorem op_thr {L : Nat} {xs : Nat → Int32} {g : jx_H} {κ σ τ : mS} {mm d : Nat} {E : jx_M} {ms : List Value} {k b : Int32} (hg : ml_mk g σ = g) (hl : 50 ≤ g.length) (hM : jw_M mm = some E) (hs : (lg_sl ms).length ≤ E.2.1) (h1000 : mm < 1000) (hd : d ≤ 800) (hr : jx_r (jz (jw_bt L xs)) jw_M d mm (0, jx_in0 E.2.1 ms, [], ml_mk (cl_mk g κ) σ) (ml_mk (cl_mk g κ) τ, .inl (some (.int b)))) (h0 : Int32.ofInt (τ 0 0) = k) (h49 : k = 0 → ∃ f : Nat → Value, g[49]? = some (.inl (1, 1, f)) ∧ f 0 = .long b.toInt64) : jx_cls (jw_TT L xs) (cl_mk g κ) 15 = some 16 ∧ jw_su L xs mm ms (cl_mk g κ) (cl_mk (ml_mk g τ) κ, .inl (some (.int b))) ∧ jx_cls (jw_TT L xs) (cl_mk (ml_mk g τ) κ) 15 = some 16 ∧ jw_su L xs 209 [.ref 15] (cl_mk (ml_mk g τ) κ) (cl_mk (ml_mk g τ) κ, .inl (some (.int k))) ∧ (k = 0 → ∃ f : Nat → Value, jx_arr (jw_TT L xs) (cl_mk (ml_mk g τ) κ) 49 = some (1, 1, f) ∧ f 0 = .long b.toInt64) := by
  have e := ml_len (h := g) (σ := τ) (by omega)
  obtain ⟨a1, a2, a3⟩ := op_mod hg hl hM hs h1000 hd hr
  refine ⟨a1, a2, a3, ?_, fun hk => ?_⟩
  · refine jw_suR (d := 0) jm_209 (Nat.le_refl 1) (by decide) (by decide) ?_
    exact jm_thrown (f := 0) (ml_o15 (σ := τ) (ml_idem (by omega)) (by omega)) (by decide) (by decide +kernel) (by rw [← h0]; rfl)
  · obtain ⟨f, f1, f2⟩ := h49 hk
    refine ⟨f, js_arr ?_ (by decide), f2⟩
    rw [cl_dy (by omega) (by omega), ml_other (by omega) (Or.inr (by omega))]
    exact f1
theorem nm_p (p W : Nat) : ∃ K M : Nat, p * (6 * W + 430) = K ∧ (p + 1) * (6 * W + 430) = K + (6 * W + 430) ∧ p * (88 * W + 2000) = M ∧ (p + 1) * (88 * W + 2000) = M + (88 * W + 2000) := ⟨_, _, rfl, Nat.succ_mul _ _, rfl, Nat.succ_mul _ _⟩
theorem nm_w {W W' : Nat} (p : Nat) (h : W ≤ W') : p * (6 * W + 430) ≤ p * (6 * W' + 430) ∧ p * (88 * W + 2000) ≤ p * (88 * W' + 2000) := ⟨Nat.mul_le_mul_left _ (by omega), Nat.mul_le_mul_left _ (by omega)⟩
theorem cdS_k {g : jx_H} {κ κ' : mS} {T T' : Int → Int} {n n' : Int} {doc res : vT} {qs : List (List sT)} {r cap : Nat} {fb : Nat → Value} (hl : 50 ≤ g.length) (h : cdS g κ T n doc res qs r cap fb) (hP : cP κ' T' n' 0) (h7 : 0 ≤ κ' 7 0 ∧ κ' 7 0 ≤ 16) (hrow : ∀ f, f ∈ [0, 1, 2, 11, 12, 13, 14] → κ' f = κ f) : cdS g κ' T' n' doc res qs r cap fb := by
  obtain ⟨a1, a2, a3, a4, a5, a6, a7⟩ := h
  refine ⟨hP, h7, by rw [hrow 0 (by decide)]; exact a3, by rw [hrow 1 (by decide)]; exact a4, by rw [hrow 2 (by decide)]; exact a5, sbR_x hl hl a6 (fun _ _ _ hy => hy) (hrow 12 (by decide)) (hrow 13 (by decide)) (hrow 14 (by decide)), fun j l hj => ?_⟩
  rw [hrow 11 (by decide)]
  exact a7 j l hj
theorem app_g {g L : List jx_C} {c : Nat} {y : jx_C} (hy : g[c]? = some y) : (g ++ L)[c]? = some y := by
  rw [List.getElem?_append_left (List.getElem?_eq_some_iff.mp hy).1]
  exact hy
theorem set_g {g : List jx_C} {a c : Nat} {y z : jx_C} (hc : ¬ c = a) (hy : g[c]? = some y) : (g.set a z)[c]? = some y := by
  rw [List.getElem?_set_ne (fun e => hc e.symm)]
  exact hy
theorem ml_set49 {g : jx_H} {σ : mS} {z : jx_C} (hg : ml_mk g σ = g) (hl : 50 ≤ g.length) : ml_mk (g.set 49 z) σ = g.set 49 z := ml_fix hg (by omega) (by rw [List.length_set]; omega) (fun c y _ h2 hy => set_g (by omega) hy)
theorem ml_app {g L : jx_H} {σ : mS} (hg : ml_mk g σ = g) (hl : 50 ≤ g.length) : ml_mk (g ++ L) σ = g ++ L := ml_fix hg (by omega) (by rw [List.length_append]; omega) (fun c y _ _ hy => app_g hy)
theorem cdS_49 {g : jx_H} {κ : mS} {T : Int → Int} {n : Int} {doc res : vT} {qs : List (List sT)} {r cap : Nat} {fb : Nat → Value} {z : jx_C} (hl : 50 ≤ g.length) (h : cdS g κ T n doc res qs r cap fb) : cdS (g.set 49 z) κ T n doc res qs r cap fb := cdS_fr hl (by rw [List.length_set]; exact hl) (fun c y h1 hy => set_g (by omega) hy) h
theorem cdS_app {g L : jx_H} {κ : mS} {T : Int → Int} {n : Int} {doc res : vT} {qs : List (List sT)} {r cap : Nat} {fb : Nat → Value} (hl : 50 ≤ g.length) (h : cdS g κ T n doc res qs r cap fb) : cdS (g ++ L) κ T n doc res qs r cap fb := cdS_fr hl (by rw [List.length_append]; omega) (fun c y h1 hy => app_g hy) h
theorem cP_0 {κ : mS} (T : Int → Int) (h : κ 3 0 = 0 ∧ κ 4 0 = 0 ∧ κ 5 0 = -1) : cP κ T 0 0 := ⟨⟨h.1, fun i i0 i1 => by omega, tOK_0 T⟩, h.2.1, h.2.2, Int.le_refl 0, Int.le_refl 0⟩
theorem sb_lt {g : jx_H} {κ : mS} {r cap : Nat} {fb : Nat → Value} {l : List Int} (hl : 50 ≤ g.length) (hs : sbR g κ r cap fb l) : ∀ c, g.length ≤ c → ¬ Xr r c := fun c hc e => by
  have e : c = r := e
  have := (List.getElem?_eq_some_iff.mp hs.2.2.2.1).1
  rw [cl_len (by omega)] at this
  omega
section OPS
variable {L : Nat} {xs : Nat → Int32} {n : Nat} {H : jx_H}
/-- a refused call: an exception is made -/
theorem op_refuse {g : jx_H} {σ κ : mS} {nL : Int} {doc res : vT} {qs : List (List sT)} {r cap : Nat} {fb f0 : Nat → Value} {W t p ci : Nat} {x : Int} (hci : jw_ns ci = 6) (hg : ml_mk g σ = g) (hl : 50 ≤ g.length) (h49 : g[49]? = some (.inl (1, 1, f0))) (hm : mdR σ nL doc res qs) (hc : cdS g κ (σ 1) nL doc res qs r cap fb) (hW : vl doc ≤ W ∧ vl res ≤ W ∧ 12 ≤ W ∧ W ≤ 160 ∧ W ≤ t + 12) (hn : nL ≤ (t : Int) ∧ 2 * (p + t) ≤ n ∧ n ≤ 1024) (h1 : (g.length : Int) + sbP cap + 68 * nL ≤ 60 + 68 * t + ((p * (6 * W + 430) : Nat) : Int)) (h2 : (cvol g : Int) + sbV cap + 380 * nL ≤ 60000 + 380 * t + ((p * (88 * W + 2000) : Nat) : Int)) (hn2 : n + 2 ≤ 1024) : jI (n + 2) (cl_mk (ml_mk (g ++ [.inr (ci, [])]) (su σ 0 0 x)) κ) := by
  obtain ⟨K, M, k1, k2, k3, k4⟩ := nm_p p W
  rw [k1] at h1
  rw [k3] at h2
  have ev : cvol (g ++ [(.inr (ci, []) : jx_C)]) = cvol g + 6 := by
    rw [cvol_app]
    show cvol g + (jw_ns ci + 0) = cvol g + 6
    rw [hci]
  have el : (g ++ [(.inr (ci, []) : jx_C)]).length = g.length + 1 := by
    rw [List.length_append]
    rfl
  have ht : su σ 0 0 x 1 = σ 1 := su_row (by decide)
  refine jI_mk (t := t) (p := p + 1) (W := W) (ml_app hg hl) (by omega) (app_g h49) (mdR_0 hm) (by rw [ht]; exact cdS_app hl hc) hW ⟨hn.1, by omega, by omega⟩ ?_ ?_
  · rw [k2, el]
    omega
  · rw [k4, ev]
    omega
theorem op_letter (x : Int32) (h : jI n H) (hn2 : n + 2 ≤ 1024) : ∃ H', jw_op L xs 15 49 0 x H H' ∧ jI (n + 2) H' := by
  obtain ⟨g, σ, κ, nL, doc, res, qs, r, cap, fb, f0, W, t, p, rfl, hg, hl, h49, hm, hc, hW, hn, h1, h2⟩ := h
  obtain ⟨x, hx, rfl⟩ := op_x x
  have ht := hm.2.1
  have hn0 := ht.1
  have hn1 := ht.2.1
  obtain ⟨num1, num2⟩ := jI_num hW.2.2 hn.2
  have hb : (cl_mk g κ).length < jx_big := by
    rw [cl_len (by omega)]
    exact jbg (by omega)
  have el : ∀ c : jx_C, (g ++ [c]).length = g.length + 1 := fun c => by
    rw [List.length_append]
    rfl
  by_cases hlo : x < 32 ∨ 126 < x
  · have q : jw_sh L xs 114 [.ref 0, .int (Int32.ofInt x)] (cl_mk g κ) (cl_mk g κ ++ [.inr (8, [])], .inr (cl_mk g κ).length) := by
      refine jw_shXB (d := 0) jm_114 (Nat.le_refl 2) (by decide) (by decide) hb (by decide) ?_
      by_cases hlt : x < 32
      · exact jd_letA hb hx hlt
      · exact jd_letB hb hx (hlo.resolve_left hlt)
    have q1 := jh_letter_8 (o := 49) cls_0 hb q
    rw [← cl_appL (by omega)] at q1
    have hl1 : 50 ≤ (g ++ [(.inr (8, []) : jx_C)]).length := by rw [el]; omega
    have hr := (mo_letter (β := jw_bt L xs) (d := 0) (h := cl_mk (g ++ [.inr (8, [])]) κ) (by rw [cl_len (by omega)]; omega) hm hx).1 hlo
    obtain ⟨t1, t2, t3, t4, t5⟩ := op_thr (L := L) (xs := xs) (ms := [.ref 15, .int (Int32.ofInt x)]) (k := 1) (ml_app hg hl) hl1 jm_210 (Nat.le_refl 2) (by decide) (by decide) hr (by rw [su_eq]; decide) (fun h => absurd h (by decide))
    exact ⟨_, ⟨_, _, 1, _, q1, t1, t2, t3, t4, t5⟩, op_refuse (by decide) hg hl h49 hm hc hW hn h1 h2 hn2⟩
  by_cases hfull : nL = 160
  · have e3 : κ 3 0 = 160 := hc.1.1.1.trans hfull
    have q : jw_sh L xs 114 [.ref 0, .int (Int32.ofInt x)] (cl_mk g κ) (cl_mk g κ ++ [.inr (10, [])], .inr (cl_mk g κ).length) := jw_shXB (d := 1) jm_114 (Nat.le_refl 2) (by decide) (by decide) hb (by decide) (jd_letF (d := 0) hb ⟨by omega, by omega⟩ e3)
    have q1 := jh_letter_10 (o := 49) cls_0 hb q
    rw [← cl_appL (by omega)] at q1
    have hl1 : 50 ≤ (g ++ [(.inr (10, []) : jx_C)]).length := by rw [el]; omega
    have hr := (mo_letter (β := jw_bt L xs) (d := 0) (h := cl_mk (g ++ [.inr (10, [])]) κ) (by rw [cl_len (by omega)]; omega) hm hx).2.1 hlo hfull
    obtain ⟨t1, t2, t3, t4, t5⟩ := op_thr (L := L) (xs := xs) (ms := [.ref 15, .int (Int32.ofInt x)]) (k := 2) (ml_app hg hl) hl1 jm_210 (Nat.le_refl 2) (by decide) (by decide) hr (by rw [su_eq]; decide) (fun h => absurd h (by decide))
    exact ⟨_, ⟨_, _, 2, _, q1, t1, t2, t3, t4, t5⟩, op_refuse (by decide) hg hl h49 hm hc hW hn h1 h2 hn2⟩
  have e3 : κ 3 0 = nL := hc.1.1.1
  have c1 := jc_let (β := jw_bt L xs) (d := 0) (κ := κ) hl (x := x) ⟨by omega, by omega⟩ e3 ⟨hn0, by omega⟩
  obtain ⟨κ1, hκ⟩ : ∃ κ1, κ1 = su (su κ 6 nL x) 3 0 (nL + 1) := ⟨_, rfl⟩
  rw [← hκ] at c1
  have q : jw_sh L xs 114 [.ref 0, .int (Int32.ofInt x)] (cl_mk g κ) (cl_mk g κ1, .inl (some (.int (Int32.ofInt (nL + 1))))) := jw_shRB (d := 1) jm_114 (Nat.le_refl 2) (by decide) (by decide) c1
  have q1 := jh_letter (o := 49) (f := f0) cls_0 q (by rw [cl_dy (by omega) (by omega)]; exact h49) (by decide)
  rw [cl_set (by omega) (by omega)] at q1
  obtain ⟨g1, hg1⟩ : ∃ g1, g1 = g.set 49 (.inl (1, 1, updV f0 0 (.long (Int32.ofInt (nL + 1)).toInt64))) := ⟨_, rfl⟩
  rw [← hg1] at q1
  have hl1 : 50 ≤ g1.length := by rw [hg1, List.length_set]; exact hl
  have e49 : g1[49]? = some (.inl (1, 1, updV f0 0 (.long (Int32.ofInt (nL + 1)).toInt64))) := by
    rw [hg1]
    exact List.getElem?_set_self (by omega)
  have mg1 : ml_mk g1 σ = g1 := by
    rw [hg1]
    exact ml_set49 hg hl
  obtain ⟨τ, r1, r2, r3, r4⟩ := (mo_letter (β := jw_bt L xs) (d := 0) (h := cl_mk g1 κ1) (by rw [cl_len (by omega)]; omega) hm hx).2.2 hlo hfull
  obtain ⟨t1, t2, t3, t4, t5⟩ := op_thr (L := L) (xs := xs) (ms := [.ref 15, .int (Int32.ofInt x)]) (k := 0) mg1 hl1 jm_210 (Nat.le_refl 2) (by decide) (by decide) r1 (by rw [r2]; decide) (fun _ => ⟨_, e49, rfl⟩)
  have hrow : ∀ f, ¬ f = 6 → ¬ f = 3 → κ1 f = κ f := fun f a b => by
    rw [hκ]
    exact (su_row b).trans (su_row a)
  have hP : cP κ1 (τ 1) (nL + 1) 0 := by
    refine ⟨⟨by rw [hκ]; exact su_eq _ _ _ _, fun i i0 i1 => ?_, r3.2.1⟩, by rw [hrow 4 (by decide) (by decide)]; exact hc.1.2.1, by rw [hrow 5 (by decide) (by decide)]; exact hc.1.2.2.1, Int.le_refl 0, by omega⟩
    rw [hκ, su_nf (by decide), r4]
    show su κ 6 nL x 6 i = if i = nL then x else σ 1 i
    by_cases hi : i = nL
    · subst hi
      rw [su_eq, if_pos rfl]
    · rw [su_ni hi, if_neg hi]
      exact hc.1.1.2.1 i i0 (by omega)
  have hc1 : cdS g1 κ1 (τ 1) (nL + 1) doc res qs r cap fb := by
    rw [hg1]
    refine cdS_49 hl (cdS_k hl hc hP (by rw [hrow 7 (by decide) (by decide)]; exact hc.2.1) (fun f hf => hrow f ?_ ?_))
    · rintro rfl
      exact absurd hf (by decide)
    · rintro rfl
      exact absurd hf (by decide)
  have ev : cvol g1 = cvol g := by
    rw [hg1]
    exact cvol_sA h49
  have eln : g1.length = g.length := by rw [hg1, List.length_set]
  refine ⟨_, ⟨_, _, 0, _, q1, t1, t2, t3, t4, t5⟩, jI_mk (t := t + 1) (p := p) (W := W) mg1 hl1 e49 r3 hc1 ⟨hW.1, hW.2.1, hW.2.2.1, hW.2.2.2.1, by omega⟩ ⟨by omega, by omega, by omega⟩ ?_ ?_⟩
  · rw [eln]
    omega
  · rw [ev]
    omega
theorem op_load (x : Int32) (h : jI n H) (hn2 : n + 2 ≤ 1024) : ∃ H', jw_op L xs 15 49 1 x H H' ∧ jI (n + 2) H' := by
  obtain ⟨g, σ, κ, nL, doc, res, qs, r, cap, fb, f0, W, t, p, rfl, hg, hl, h49, hm, hc, hW, hn, h1, h2⟩ := h
  have ht := hm.2.1
  have hn0 := ht.1
  have hn1 := ht.2.1
  obtain ⟨num1, num2⟩ := jI_num hW.2.2 hn.2
  obtain ⟨κ1, A, a1, a2, a3, a4, a5, a6, a7⟩ := jc_load (β := jw_bt L xs) (d := 0) (κ := κ) (X := Xr r) hl rfl (by omega) (sb_lt hl hc.2.2.2.2.2.1) hc.1 hc.2.1
  have hl1 : 50 ≤ (g ++ A).length := by rw [List.length_append]; omega
  have el : (g ++ A).length = g.length + A.length := List.length_append
  have ev := cvol_app g A
  have mg1 : ml_mk (g ++ A) σ = g ++ A := ml_app hg hl
  have hlc : 49 ≤ (cl_mk (g ++ A) κ1).length := by rw [cl_len (by omega)]; omega
  have hrow : ∀ f, f ∈ [0, 2, 11, 12, 13, 14] → κ1 f = κ f := fun f hf => a3 f (fun hh => by
    simp only [List.mem_cons, List.mem_nil_iff, or_false] at hf hh
    omega)
  cases hs : sLoad (σ 1) nL with
  | inl e =>
    obtain ⟨c1, c2⟩ := a6 e hs
    obtain ⟨τ, r1, r2⟩ := (mo_load (β := jw_bt L xs) (d := 0) (h := cl_mk (g ++ A) κ1) hlc hm).1 e hs
    obtain ⟨t1, t2, t3⟩ := op_mod (L := L) (xs := xs) (ms := [.ref 15]) mg1 hl1 jm_211 (by decide : (1 : Nat) ≤ 2) (by decide) (by decide) r1
    obtain ⟨K, M, k1, k2, k3, k4⟩ := nm_p p W
    rw [k1] at h1
    rw [k3] at h2
    refine ⟨_, ⟨_, _, cls_0, jw_suRB (d := 16) jm_56 (by decide : (1 : Nat) ≤ 3) (by decide) (by decide) c1, t1, t2⟩, jI_mk (t := t) (p := p + 1) (W := W) mg1 hl1 (app_g h49) r2 (cdS_k hl1 (cdS_app hl hc) (cP_0 _ a5) a4 (fun f hf => ?_)) hW ⟨by omega, by omega, by omega⟩ ?_ ?_⟩
    · by_cases f1 : f = 1
      · rw [f1]
        exact c2
      · exact hrow f (by simp only [List.mem_cons, List.mem_nil_iff, or_false] at hf ⊢; omega)
    · rw [k2, el]
      omega
    · rw [k4, ev]
      omega
  | inr v =>
    obtain ⟨c1, b, b1, b2⟩ := a7 v hs
    obtain ⟨τ, r1, r2⟩ := (mo_load (β := jw_bt L xs) (d := 0) (h := cl_mk (g ++ A) κ1) hlc hm).2 v hs
    obtain ⟨t1, t2, t3⟩ := op_mod (L := L) (xs := xs) (ms := [.ref 15]) mg1 hl1 jm_211 (by decide : (1 : Nat) ≤ 2) (by decide) (by decide) r1
    have hv := sLoad_v ht hs
    obtain ⟨W', w1, w2, w3, w4⟩ : ∃ W', W ≤ W' ∧ vl v ≤ W' ∧ W' ≤ 160 ∧ W' ≤ t + 12 := by
      by_cases hw : vl v ≤ W
      · exact ⟨W, Nat.le_refl _, hw, hW.2.2.2.1, hW.2.2.2.2⟩
      · exact ⟨vl v, by omega, Nat.le_refl _, by omega, by omega⟩
    obtain ⟨m1, m2⟩ := nm_w p w1
    obtain ⟨K, M, k1, k2, k3, k4⟩ := nm_p p W'
    rw [k1] at m1
    rw [k3] at m2
    obtain ⟨d1, d2, d3, d4, d5, d6, d7⟩ := cdS_app (L := A) hl hc
    have hc1 : cdS (g ++ A) κ1 (τ 1) 0 v res qs r cap fb := by
      refine ⟨cP_0 _ a5, a4, by rw [hrow 0 (by decide)]; exact d3, ?_, by rw [hrow 2 (by decide)]; exact d5, sbR_x hl1 hl1 d6 (fun _ _ _ hy => hy) (hrow 12 (by decide)) (hrow 13 (by decide)) (hrow 14 (by decide)), fun j l hj => ?_⟩
      · rw [b1]
        exact Or.inr b2
      · rw [hrow 11 (by decide)]
        exact d7 j l hj
    refine ⟨_, ⟨_, _, cls_0, jw_suRB (d := 16) jm_56 (by decide : (1 : Nat) ≤ 3) (by decide) (by decide) c1, t1, t2⟩, jI_mk (t := t) (p := p + 1) (W := W') mg1 hl1 (app_g h49) r2 hc1 ⟨w2, by omega, by omega, w3, w4⟩ ⟨by omega, by omega, by omega⟩ ?_ ?_⟩
    · rw [k2, el]
      omega
    · rw [k4, ev]
      omega
theorem op_keep (x : Int32) (h : jI n H) (hn2 : n + 2 ≤ 1024) : ∃ H', jw_op L xs 15 49 4 x H H' ∧ jI (n + 2) H' := by
  obtain ⟨g, σ, κ, nL, doc, res, qs, r, cap, fb, f0, W, t, p, rfl, hg, hl, h49, hm, hc, hW, hn, h1, h2⟩ := h
  have ht := hm.2.1
  have hn0 := ht.1
  obtain ⟨d1, d2, d3, d4, d5, d6, d7⟩ := hc
  have c1 := jc_keep (β := jw_bt L xs) (d := 0) (κ := κ) hl rfl d5
  obtain ⟨κ1, hκ⟩ : ∃ κ1, κ1 = su κ 1 0 (((κ 2 0).toNat : Nat) : Int) := ⟨_, rfl⟩
  rw [← hκ] at c1
  have hrow : ∀ f, ¬ f = 1 → κ1 f = κ f := fun f a => by
    rw [hκ]
    exact su_row a
  have e1 : (κ1 1 0).toNat = (κ 2 0).toNat := by
    rw [hκ, su_eq]
    rfl
  obtain ⟨τ, r1, r2, r3⟩ := mp_keep (β := jw_bt L xs) (d := 0) (h := cl_mk g κ1) (by rw [cl_len (by omega)]; omega) hm
  obtain ⟨t1, t2, t3⟩ := op_mod (L := L) (xs := xs) (ms := [.ref 15]) hg hl jm_273 (Nat.le_refl 1) (by decide) (by decide) r1
  obtain ⟨K, M, k1, k2, k3, k4⟩ := nm_p p W
  rw [k1] at h1
  rw [k3] at h2
  have hc1 : cdS g κ1 (τ 1) nL res res qs r cap fb := by
    refine ⟨⟨⟨by rw [hrow 3 (by decide)]; exact d1.1.1, fun i i0 i1 => by rw [hrow 6 (by decide), r3]; exact d1.1.2.1 i i0 i1, r2.2.1⟩, by rw [hrow 4 (by decide)]; exact d1.2.1, by rw [hrow 5 (by decide)]; exact d1.2.2.1, d1.2.2.2⟩, by rw [hrow 7 (by decide)]; exact d2, by rw [hrow 0 (by decide)]; exact d3, by rw [e1]; exact d5, by rw [hrow 2 (by decide)]; exact d5, sbR_x hl hl d6 (fun _ _ _ hy => hy) (hrow 12 (by decide)) (hrow 13 (by decide)) (hrow 14 (by decide)), fun j l hj => ?_⟩
    rw [hrow 11 (by decide)]
    exact d7 j l hj
  refine ⟨_, ⟨_, _, cls_0, jw_suRB (d := 0) jm_106 (Nat.le_refl 1) (by decide) (by decide) c1, t1, t2⟩, jI_mk (t := t) (p := p + 1) (W := W) hg hl h49 r2 hc1 ⟨hW.2.1, hW.2⟩ ⟨hn.1, by omega, by omega⟩ ?_ ?_⟩
  · rw [k2]
    omega
  · rw [k4]
    omega
/-- a call that asks -/
theorem op_ask {g : jx_H} {σ τ κ : mS} {nL : Int} {doc res : vT} {qs : List (List sT)} {r cap : Nat} {fb f0 : Nat → Value} {W t p : Nat} (hg : ml_mk g σ = g) (hl : 50 ≤ g.length) (h49 : g[49]? = some (.inl (1, 1, f0))) (hm : mdR τ nL doc res qs) (hT : τ 1 = σ 1) (hc : cdS g κ (σ 1) nL doc res qs r cap fb) (hW : vl doc ≤ W ∧ vl res ≤ W ∧ 12 ≤ W ∧ W ≤ 160 ∧ W ≤ t + 12) (hn : nL ≤ (t : Int) ∧ 2 * (p + t) ≤ n ∧ n ≤ 1024) (h1 : (g.length : Int) + sbP cap + 68 * nL ≤ 60 + 68 * t + ((p * (6 * W + 430) : Nat) : Int)) (h2 : (cvol g : Int) + sbV cap + 380 * nL ≤ 60000 + 380 * t + ((p * (88 * W + 2000) : Nat) : Int)) (hn2 : n + 2 ≤ 1024) : jI (n + 2) (cl_mk (ml_mk g τ) κ) :=
  jI_mk (t := t) (p := p) (W := W) hg hl h49 hm (by rw [hT]; exact hc) hW ⟨hn.1, by omega, by omega⟩ h1 h2
theorem op_result (x : Int32) (h : jI n H) (hn2 : n + 2 ≤ 1024) : ∃ H', jw_op L xs 15 49 5 x H H' ∧ jI (n + 2) H' := by
  obtain ⟨g, σ, κ, nL, doc, res, qs, r, cap, fb, f0, W, t, p, rfl, hg, hl, h49, hm, hc, hW, hn, h1, h2⟩ := h
  obtain ⟨x, hx, rfl⟩ := op_x x
  have vi := hm.2.2.2.1.2.2
  have c1 := jc_result (β := jw_bt L xs) (d := 0) (κ := κ) hl hc.2.2.2.2.2.1 rfl hc.2.2.2.2.1 vi.2.2.1 vi.1.1 rfl hx
  obtain ⟨τ, r1, r2, r3⟩ := mp_result (β := jw_bt L xs) (d := 0) (h := cl_mk g κ) (by rw [cl_len (by omega)]; omega) hm hx
  obtain ⟨t1, t2, t3⟩ := op_mod (L := L) (xs := xs) (ms := [.ref 15, .int (Int32.ofInt x)]) hg hl jm_274 (Nat.le_refl 2) (by decide) (by decide) r1
  exact ⟨_, ⟨_, _, cls_0, jw_suRB (d := 5) jm_107 (Nat.le_refl 2) (by decide) (by decide) c1, t1, t2⟩, op_ask hg hl h49 r2 r3 hc hW hn h1 h2 hn2⟩
theorem op_written (x : Int32) (h : jI n H) (hn2 : n + 2 ≤ 1024) : ∃ H', jw_op L xs 15 49 6 x H H' ∧ jI (n + 2) H' := by
  obtain ⟨g, σ, κ, nL, doc, res, qs, r, cap, fb, f0, W, t, p, rfl, hg, hl, h49, hm, hc, hW, hn, h1, h2⟩ := h
  obtain ⟨x, hx, rfl⟩ := op_x x
  have vi := hm.2.2.2.1.2.2
  have c1 := jc_written (β := jw_bt L xs) (d := 0) (κ := κ) (x := x) (v := res) hl hc.2.2.2.2.2.1 (wV_lo vi.1) rfl hx
  obtain ⟨τ, r1, r2, r3⟩ := mp_written (β := jw_bt L xs) (d := 0) (h := cl_mk g κ) (by rw [cl_len (by omega)]; omega) hm hx
  obtain ⟨t1, t2, t3⟩ := op_mod (L := L) (xs := xs) (ms := [.ref 15, .int (Int32.ofInt x)]) hg hl jm_280 (Nat.le_refl 2) (by decide) (by decide) r1
  exact ⟨_, ⟨_, _, cls_0, jw_suRB (d := 4) jm_109 (Nat.le_refl 2) (by decide) (by decide) c1, t1, t2⟩, op_ask hg hl h49 r2 r3 hc hW hn h1 h2 hn2⟩
theorem op_about (x : Int32) (h : jI n H) (hn2 : n + 2 ≤ 1024) : ∃ H', jw_op L xs 15 49 7 x H H' ∧ jI (n + 2) H' := by
  obtain ⟨g, σ, κ, nL, doc, res, qs, r, cap, fb, f0, W, t, p, rfl, hg, hl, h49, hm, hc, hW, hn, h1, h2⟩ := h
  obtain ⟨x, hx, rfl⟩ := op_x x
  have vi := hm.2.2.1.2.2
  have c1 := jc_about (β := jw_bt L xs) (d := 0) (κ := κ) hl rfl hc.2.2.2.1 vi.2.2.1 hc.1.1.1 hc.2.2.1 hx
  obtain ⟨τ, r1, r2, r3⟩ := mp_about (β := jw_bt L xs) (d := 0) (h := cl_mk g κ) (by rw [cl_len (by omega)]; omega) hm hx
  obtain ⟨t1, t2, t3⟩ := op_mod (L := L) (xs := xs) (ms := [.ref 15, .int (Int32.ofInt x)]) hg hl jm_281 (Nat.le_refl 2) (by decide) (by decide) r1
  exact ⟨_, ⟨_, _, cls_0, jw_suRB (d := 5) jm_112 (Nat.le_refl 2) (by decide) (by decide) c1, t1, t2⟩, op_ask hg hl h49 r2 r3 hc hW hn h1 h2 hn2⟩
end OPS
