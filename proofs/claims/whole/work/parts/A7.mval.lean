/-! ===== the model reads a value as it should be read (printed by program: gen31.py) ===== -/
theorem fr_nameE {τ τ' : mS} {N C a : Int} (h : mEq [28, 29, 31, 35] τ τ') (ha : a ≤ 0) : fr τ τ' N C 0 ↔ (∀ t, t < 0 → τ' 35 t = τ 35 t) := by
  constructor
  · intro h2 t ht
    exact (h2.2.2.1 t ht).2.2
  · intro h35
    refine ⟨fun f v f1 f2 _ => by rw [h f (by simp; omega)], fun f x f1 f2 _ => by rw [h f (by simp; omega)], fun t ht => ?_, fun z _ => ?_, fun f hf => h f (fun z => hf ?_)⟩
    · rw [h 33 (by decide), h 34 (by decide)]
      exact ⟨rfl, rfl, h35 t ht⟩
    · rw [h 11 (by decide), h 12 (by decide)]
      exact ⟨rfl, rfl⟩
    · simp only [List.mem_cons, List.mem_nil_iff, or_false] at z
      unfold frL
      simp only [List.mem_cons, List.mem_nil_iff, or_false]
      omega
/-- where it is wrong, what lies before the work zone is as it was -/
def fe (τ τ' : mS) : Prop := (∀ f v, 3 ≤ f → f ≤ 10 → v < 680 → τ' f v = τ f v) ∧ (∀ z, ¬ z = 4 → τ' 11 z = τ 11 z ∧ τ' 12 z = τ 12 z) ∧ (∀ f, f ∉ frL → τ' f = τ f)
theorem fe_of {τ τ' : mS} {N C a : Int} (h : fr τ τ' N C a) (hN : 680 ≤ N) (hC : 680 ≤ C) : fe τ τ' := by
  refine ⟨fun f v f1 f2 hv => ?_, h.2.2.2.1, h.2.2.2.2⟩
  by_cases hf : f ≤ 7
  · exact h.1 f v f1 hf (by omega)
  · exact h.2.1 f v (by omega) f2 (by omega)
theorem fe_eq {L : List Nat} {τ τ' : mS} (h : mEq L τ τ') (hL : ∀ f ∈ L, f ∈ [28, 29, 31, 32, 35]) : fe τ τ' := by
  have key : ∀ f, f ∉ [28, 29, 31, 32, 35] → τ' f = τ f := fun f hf => h f (fun z => hf (hL f z))
  refine ⟨fun f v f1 f2 _ => by rw [key f (by simp; omega)], fun z _ => by rw [key 11 (by decide), key 12 (by decide)]; exact ⟨rfl, rfl⟩, fun f hf => key f (fun z => hf ?_)⟩
  simp only [List.mem_cons, List.mem_nil_iff, or_false] at z
  unfold frL
  simp only [List.mem_cons, List.mem_nil_iff, or_false]
  omega
theorem fe_trans {τ τ' τ2 : mS} (h : fe τ τ') (h' : fe τ' τ2) : fe τ τ2 := ⟨fun f v f1 f2 hv => (h'.1 f v f1 f2 hv).trans (h.1 f v f1 f2 hv), fun z hz => ⟨(h'.2.1 z hz).1.trans (h.2.1 z hz).1, (h'.2.1 z hz).2.trans (h.2.1 z hz).2⟩, fun f hf => (h'.2.2 f hf).trans (h.2.2 f hf)⟩
/-- a new node -/
theorem mk_node {T : Int → Int} {n : Int} {τ : mS} {p N C k x t : Int} (hr : rs T n τ p N C) : (∀ v, mNode τ 4 k x t 3 v = if v = N then k else τ 3 v) ∧ (∀ v, mNode τ 4 k x t 4 v = if v = N then x else τ 4 v) ∧ (∀ v, mNode τ 4 k x t 5 v = if v = N then t else τ 5 v) ∧ (∀ v, mNode τ 4 k x t 6 v = if v = N then -1 else τ 6 v) ∧ (∀ v, mNode τ 4 k x t 7 v = if v = N then 0 else τ 7 v) ∧ (∀ v, mNode τ 4 k x t 11 v = if v = 4 then N - 680 + 1 else τ 11 v) := by
  have e : 170 * 4 + τ 11 4 = N := by rw [hr.2.2.2.2.1]; omega
  refine ⟨fun v => by rw [mNode_3, e], fun v => by rw [mNode_4, e], fun v => by rw [mNode_5, e], fun v => by rw [mNode_6, e], fun v => by rw [mNode_7, e], fun v => by rw [mNode_11, hr.2.2.2.2.1]⟩
/-- what V says of a value; what J says of what is in a list or an object -/
def jn_V (β : Bool) (d : Nat) (h : jx_H) (T : Int → Int) (n : Int) (f : Nat) : Prop := ∀ (a : Nat) (p N C : Int) (τ : mS) (c2 c4 : Option Value), a ≤ 4 → rs T n τ p N C → 2 * (n - p) + 2 ≤ f →
  (∀ i F q, sP T n f (.inl (a, p)) = .inr (i, F, q) → ∃ (τ' : mS) (v : Int) (c4' : Option Value) (N' C' : Int), (∀ res, jx_r (jz β) jw_M (d + 6) 214 (162, [some (.ref 15), some (.int (Int32.ofInt ((a : Int) - 1))), some (.int (Int32.ofInt (v))), some (.int (Int32.ofInt (-1))), c4'], [], ml_mk h τ') res → jx_r (jz β) jw_M (d + 6) 214 (6, [some (.ref 15), some (.int (Int32.ofInt ((a : Int) - 1))), c2, some (.int (Int32.ofInt (-1))), c4], [], ml_mk h τ) res) ∧ rs T n τ' q N' C' ∧ N + 1 ≤ N' ∧ C ≤ C' ∧ N - C + 1 ≤ N' - C' ∧ mV τ' (In N N') (In C C') v i F ∧ fr τ τ' N C a) ∧
  (∀ e, sP T n f (.inl (a, p)) = .inl e → ∃ (τ' : mS) (r : Int), jx_r (jz β) jw_M (d + 6) 214 (6, [some (.ref 15), some (.int (Int32.ofInt ((a : Int) - 1))), c2, some (.int (Int32.ofInt (-1))), c4], [], ml_mk h τ) (ml_mk h (τ'), .inl (some (.int (Int32.ofInt (r))))) ∧ τ' 29 0 = -1 - e ∧ fe τ τ')
def jn_J (β : Bool) (d : Nat) (h : jx_H) (T : Int → Int) (n : Int) (f : Nat) : Prop := ∀ (ob : Bool) (a : Nat) (F : FT) (p p1 N C c0 w kd : Int) (s : List Int) (τ : mS) (c4 : Option Value), a ≤ 3 → fwf F → 0 ≤ p → p ≤ n → sName ob T n p = .inr (s, p1) → rs T n τ p1 N C → 2 * (n - p) + 3 ≤ f → kd = (if ob = true then 6 else 5) → τ 35 a = pk s → 680 ≤ w → w < N → 680 ≤ c0 → c0 ≤ C → cont τ a w kd c0 N C F →
  (∀ i F' q, sP T n f (.inr (ob, a, F, p)) = .inr (i, F', q) → ∃ (τ' : mS) (c4' : Option Value) (N' C' : Int), (∀ res, jx_r (jz β) jw_M (d + 6) 214 (162, [some (.ref 15), some (.int (Int32.ofInt ((a : Int) - 1))), some (.int (Int32.ofInt (w))), some (.int (Int32.ofInt (-1))), c4'], [], ml_mk h τ') res → jx_r (jz β) jw_M (d + 6) 214 (162, [some (.ref 15), some (.int (Int32.ofInt ((a : Int)))), some (.int (Int32.ofInt (-1))), some (.int (Int32.ofInt (-1))), c4], [], ml_mk h τ) res) ∧ rs T n τ' q N' C' ∧ N ≤ N' ∧ C ≤ C' ∧ N - C ≤ N' - C' ∧ mV τ' (In w N') (In c0 C') w (kd, 0, [], []) F' ∧ fr τ τ' w c0 a) ∧
  (∀ e, sP T n f (.inr (ob, a, F, p)) = .inl e → ∃ (τ' : mS) (r : Int), jx_r (jz β) jw_M (d + 6) 214 (162, [some (.ref 15), some (.int (Int32.ofInt ((a : Int)))), some (.int (Int32.ofInt (-1))), some (.int (Int32.ofInt (-1))), c4], [], ml_mk h τ) (ml_mk h (τ'), .inl (some (.int (Int32.ofInt (r))))) ∧ τ' 29 0 = -1 - e ∧ fe τ τ')
theorem jn_J_s {β : Bool} {d : Nat} {h : jx_H} (hl : 49 ≤ h.length) {T : Int → Int} {n : Int} (ht : tOK T n) {f : Nat} (ihV : jn_V β d h T n f) (ihJ : jn_J β d h T n f) : jn_J β d h T n (f + 1) := by
  intro ob a F p p1 N C c0 w kd s τ c4 ha hF h0 hp hn hr hf hkd e35 hw0 hw hc0 hc1 hc
  obtain ⟨g1, g2, g3⟩ := sName_ok ht h0 hp hn
  obtain ⟨r1, r2, r3, r4, r5, r6, r7, r8, r9, r10, r11⟩ := id hr
  have hkd6 : 0 ≤ kd ∧ kd ≤ 6 := by rw [hkd]; split <;> omega
  have hkd2 : kd = 5 ∨ kd = 6 := by rw [hkd]; split <;> omega
  have hdk : decide (kd = 6) = ob := by rw [hkd]; cases ob <;> decide
  obtain ⟨kV, kE⟩ := ihV (a + 1) p1 N C τ (some (.int (Int32.ofInt (-1)))) c4 (by omega) hr (by omega)
  have eA : ((a + 1 : Nat) : Int) - 1 = (a : Int) := by omega
  rw [eA] at kV kE
  have sok := (sP_ok ht f).1 (a + 1) p1 (by omega) g2
  obtain ⟨t0, t1, t2⟩ := id ht
  unfold sP
  rw [hn]
  dsimp only
  cases hx : sP T n f (.inl (a + 1, p1)) with
  | inl e2 =>
    refine ⟨fun i F' q hh => (by cases hh), fun e hh => ?_⟩
    obtain rfl : e2 = e := by cases hh; rfl
    obtain ⟨τ', r, k1, k2, k3⟩ := kE e2 hx
    exact ⟨τ', r, jr_on hl r4 _ k1, k2, k3⟩
  | inr y =>
    obtain ⟨i, c, q⟩ := y
    obtain ⟨m1, m2, m3, m4, m5, m6⟩ := sok.1 i c q hx
    obtain ⟨τ1, v, c5, N1, C1, k1, k2, k3, k4, k5, k6, k7⟩ := kV i c q hx
    have hc1' := cont_fr hc k7 (b := ((a + 1 : Nat) : Int)) (by omega) hw (Int.le_refl N) (Int.le_refl C)
    have e35' : τ1 35 a = pk s := by rw [(k7.2.2.1 a (by omega)).2.2]; exact e35
    obtain ⟨τ2, C2, p1', p2, p3, p4, p5, p6, p7, p8, p9, p10, p11⟩ := cont_put (β := β) (d := d) hl ht (a := (a : Int)) (s := s) ⟨by omega, by omega⟩ hkd hc1' k2 ⟨hw0, hw⟩ (by omega) k4 ⟨hc0, hc1⟩ e35' g3 hF k6
    have k2' := k2
    obtain ⟨u1, u2, u3, u4, u5, u6, u7, u8, u9, u10, u11⟩ := k2'
    have hr2 : rs T n τ2 q N1 C2 := ⟨p3, p4, p5, p6, p7, p8, by omega, by omega, u9, u10, u11⟩
    have hv : 0 ≤ v ∧ v < 1740 := by
      obtain ⟨⟨v0, v1⟩, -, -⟩ := k6
      omega
    have e33 : τ2 33 a = w := by
      obtain ⟨A, B, D, x1, -⟩ := p2
      exact x1
    have e3 : τ2 3 w = kd := by
      obtain ⟨A, B, D, -, x1, -⟩ := p2
      exact x1.1
    have hww : 0 ≤ w ∧ w < 1740 := by omega
    have hto : ∀ res, jx_r (jz β) jw_M (d + 6) 214 (194, [some (.ref 15), some (.int (Int32.ofInt ((a : Int)))), some (.int (Int32.ofInt (-1))), some (.int (Int32.ofInt (-1))), some (.int (Int32.ofInt (w)))], [], ml_mk h τ2) res → jx_r (jz β) jw_M (d + 6) 214 (162, [some (.ref 15), some (.int (Int32.ofInt ((a : Int)))), some (.int (Int32.ofInt (-1))), some (.int (Int32.ofInt (-1))), c4], [], ml_mk h τ) res := fun res kk => jr_on hl r4 _ (k1 _ (jr_put hl u4 hv ⟨by omega, by omega⟩ e33 p1' _ kk))
    have hfr : fr τ τ2 w c0 a := fr_trans (fr_weak k7 (by omega) (by omega) (by omega)) p11 (Int.le_refl _) (Int.le_refl _) (Int.le_refl _)
    have hik : iok (wk i s) := ⟨m3.1, m3.2.1, m3.2.2.1, m3.2.2.2.1, g3⟩
    have hF2 : fwf (fput ob (wk i s) c F) := fwf_put hik m5 hF
    have h2 := tH_r (p := q) ht (by omega)
    have ecl : (if ob = true then (125 : Int) else 93) = if kd = 5 then 93 else 125 := by rw [hkd]; cases ob <;> rfl
    dsimp only
    by_cases h44 : tH T n q = 44
    · rw [if_pos h44]
      have hlt := h2.2.2.2 (by omega)
      have hT : mEq [28] τ2 (mTake τ2) := mEq_su (mEq_refl _ _) (by decide)
      have hrT : rs T n (mTake τ2) (q + 1) N1 C2 := ⟨by rw [hT 1 (by decide)]; exact p3, by rw [hT 2 (by decide)]; exact p4, by show su τ2 28 0 (τ2 28 0 + 1) 28 0 = _; rw [su_eq, p5], by rw [hT 29 (by decide)]; exact p6, by rw [hT 11 (by decide)]; exact p7, by rw [hT 12 (by decide)]; exact p8, by omega, by omega, by omega, by omega, by omega⟩
      obtain ⟨v1, v2, v3, v4, v5, v6, v7, v8, v9, v10, v11⟩ := id hrT
      have hcT : cont (mTake τ2) a w kd c0 N1 C2 (fput ob (wk i s) c F) := cont_fr p2 (fr_eq (a := (a : Int) + 1) hT (by decide)) (by omega) (by omega) (Int.le_refl _) (Int.le_refl _)
      have eT3 : mTake τ2 3 w = kd := by rw [hT 3 (by decide)]; exact e3
      have eT33 : mTake τ2 33 a = w := by rw [hT 33 (by decide)]; exact e33
      cases hx2 : sName ob T n (q + 1) with
      | inl e2 =>
        have hx3 := hx2
        rw [← hdk] at hx3
        obtain ⟨τ3, y1, y2, y3⟩ := jn_name_er (β := β) (d := d + 2) hl ht v1 v2 v3 (by omega) (by omega) v4 (dp := (a : Int)) ⟨by omega, by omega⟩ eT33 hww eT3 hkd6 hx3
        have hee := sName_er (by omega) (by omega) hx2
        have hres : jx_r (jz β) jw_M (d + 6) 214 (162, [some (.ref 15), some (.int (Int32.ofInt ((a : Int)))), some (.int (Int32.ofInt (-1))), some (.int (Int32.ofInt (-1))), c4], [], ml_mk h τ) (ml_mk h (τ3), .inl (some (.int (Int32.ofInt (-1))))) := hto _ (jr_comma hl ht p3 p4 p5 (by omega) (by omega) p6 (dp := (a : Int)) ⟨by omega, by omega⟩ h44 y1 _ (jr_err hl (by rw [y2]; omega)))
        have hfe : fe τ τ3 := fe_trans (fe_of hfr (by omega) (by omega)) (fe_trans (fe_eq hT (by decide)) (fe_eq y3 (by decide)))
        cases f with
        | zero => exact absurd hf (by omega)
        | succ f =>
          have hsp : sP T n (f + 1) (.inr (ob, a, fput ob (wk i s) c F, q + 1)) = .inl e2 := by
            unfold sP
            rw [hx2]
          rw [hsp]
          refine ⟨fun i' F' q' hh => (by cases hh), fun e hh => ?_⟩
          obtain rfl : e2 = e := by cases hh; rfl
          exact ⟨τ3, -1, hres, y2, hfe⟩
      | inr y =>
        obtain ⟨s2, p2'⟩ := y
        have hx3 := hx2
        rw [← hdk] at hx3
        obtain ⟨τ3, y1, y2, y3, y4, y5⟩ := jn_name_ok (β := β) (d := d + 2) hl ht v1 v2 v3 (by omega) (by omega) v4 (dp := (a : Int)) ⟨by omega, by omega⟩ eT33 hww eT3 hkd6 hx3
        obtain ⟨z1, z2, z3⟩ := sName_ok ht (by omega) (by omega) hx2
        have hr3 : rs T n τ3 p2' N1 C2 := ⟨by rw [y4 1 (by decide)]; exact v1, by rw [y4 2 (by decide)]; exact v2, y3, by rw [y4 29 (by decide)]; exact v4, by rw [y4 11 (by decide)]; exact v5, by rw [y4 12 (by decide)]; exact v6, by omega, by omega, by omega, by omega, by omega⟩
        have hc3 : cont τ3 a w kd c0 N1 C2 (fput ob (wk i s) c F) := by
          obtain ⟨A, B, D, x1, x2, x3, x4, x5, x6, x7, x8⟩ := hcT
          have hrow : ∀ g, g ∉ [28, 31, 35] → τ3 g = mTake τ2 g := fun g hg => y4 g hg
          refine ⟨A, B, D, by rw [hrow 33 (by decide)]; exact x1, ?_, ?_, x4, x5, x6, x7, ?_⟩
          · unfold mN at x2 ⊢
            rw [hrow 3 (by decide), hrow 4 (by decide), hrow 5 (by decide), hrow 7 (by decide)]
            exact x2
          · rw [hrow 6 (by decide)]
            exact mFo_frame (fun v _ => ⟨by rw [hrow 3 (by decide)], by rw [hrow 4 (by decide)], by rw [hrow 5 (by decide)], by rw [hrow 6 (by decide)], by rw [hrow 7 (by decide)]⟩) (fun x _ => ⟨by rw [hrow 8 (by decide)], by rw [hrow 9 (by decide)], by rw [hrow 10 (by decide)]⟩) (fun x _ => ⟨by rw [hrow 8 (by decide)], by rw [hrow 9 (by decide)], by rw [hrow 10 (by decide)]⟩) (fun _ h => h) (fun _ h => h) (fun _ h => h) _ _ x3
          · rw [hrow 34 (by decide), hrow 6 (by decide), x8]
            exact (lst_frame (fun x _ => by rw [hrow 10 (by decide)]) _ _ _ x3).symm
        obtain ⟨w1, w2⟩ := ihJ ob a (fput ob (wk i s) c F) (q + 1) p2' N1 C2 c0 w kd s2 τ3 (some (.int (Int32.ofInt w))) ha hF2 (by omega) (by omega) hx2 hr3 (by omega) hkd y2 hw0 (by omega) hc0 (by omega) hc3
        have hfr3 : fr τ τ3 w c0 a := fr_trans hfr (fr_trans (fr_eq hT (by decide)) (fr_name y4 y5) (Int.le_refl _) (Int.le_refl _) (Int.le_refl _)) (Int.le_refl _) (Int.le_refl _) (Int.le_refl _)
        have hto3 : ∀ res, jx_r (jz β) jw_M (d + 6) 214 (162, [some (.ref 15), some (.int (Int32.ofInt ((a : Int)))), some (.int (Int32.ofInt (-1))), some (.int (Int32.ofInt (-1))), some (.int (Int32.ofInt (w)))], [], ml_mk h τ3) res → jx_r (jz β) jw_M (d + 6) 214 (162, [some (.ref 15), some (.int (Int32.ofInt ((a : Int)))), some (.int (Int32.ofInt (-1))), some (.int (Int32.ofInt (-1))), c4], [], ml_mk h τ) res := fun res kk => hto _ (jr_comma hl ht p3 p4 p5 (by omega) (by omega) p6 (dp := (a : Int)) ⟨by omega, by omega⟩ h44 y1 _ kk)
        refine ⟨fun i' F' q' hh => ?_, fun e hh => ?_⟩
        · obtain ⟨τ', c6, N', C', z1, z2, z3, z4, z5, z6, z7⟩ := w1 i' F' q' hh
          exact ⟨τ', c6, N', C', fun res kk => hto3 _ (z1 _ kk), z2, by omega, by omega, by omega, z6, fr_trans hfr3 z7 (Int.le_refl _) (Int.le_refl _) (Int.le_refl _)⟩
        · obtain ⟨τ', r, z1, z2, z3⟩ := w2 e hh
          exact ⟨τ', r, hto3 _ z1, z2, fe_trans (fe_of hfr3 hw0 hc0) z3⟩
    · rw [if_neg h44]
      by_cases hcl : tH T n q = (if ob = true then 125 else 93)
      · rw [if_pos hcl]
        have hlt : q < n := h2.2.2.2 (by rw [hcl]; split <;> omega)
        have hT : mEq [28] τ2 (mTake τ2) := mEq_su (mEq_refl _ _) (by decide)
        refine ⟨fun i' F' q' hh => ?_, fun e hh => (by cases hh)⟩
        obtain ⟨rfl, rfl⟩ : fput ob (wk i s) c F = F' ∧ q + 1 = q' := by cases hh; exact ⟨rfl, rfl⟩
        refine ⟨mTake τ2, some (.int (Int32.ofInt w)), N1, C2, fun res kk => hto _ (jr_end hl ht p3 p4 p5 (by omega) (by omega) p6 (dp := (a : Int)) ⟨by omega, by omega⟩ hww e3 hkd2 h44 (by rw [hcl, ecl]) _ kk), ?_, by omega, by omega, by omega, ?_, fr_trans hfr (fr_eq hT (by decide)) (Int.le_refl _) (Int.le_refl _) (Int.le_refl _)⟩
        · exact ⟨by rw [hT 1 (by decide)]; exact p3, by rw [hT 2 (by decide)]; exact p4, by show su τ2 28 0 (τ2 28 0 + 1) 28 0 = _; rw [su_eq, p5], by rw [hT 29 (by decide)]; exact p6, by rw [hT 11 (by decide)]; exact p7, by rw [hT 12 (by decide)]; exact p8, by omega, by omega, by omega, by omega, by omega⟩
        · obtain ⟨A, B, D, x1, x2, x3, x4, x5, x6, x7, x8⟩ := p2
          refine ⟨⟨by omega, by omega⟩, ?_, ?_⟩
          · unfold mN at x2 ⊢
            rw [hT 3 (by decide), hT 4 (by decide), hT 5 (by decide), hT 7 (by decide)]
            exact x2
          · rw [hT 6 (by decide)]
            exact mF_frame (fun v _ => ⟨by rw [hT 3 (by decide)], by rw [hT 4 (by decide)], by rw [hT 5 (by decide)], by rw [hT 6 (by decide)], by rw [hT 7 (by decide)]⟩) (fun x _ => ⟨by rw [hT 8 (by decide)], by rw [hT 9 (by decide)], by rw [hT 10 (by decide)]⟩) _ _ (mFo_mF (fun v hv => ⟨by have := (x4 v hv).1; omega, (x4 v hv).2⟩) x5 x6 _ _ x3)
      · rw [if_neg hcl]
        refine ⟨fun i' F' q' hh => (by cases hh), fun e hh => ?_⟩
        obtain rfl : q = e := by cases hh; rfl
        refine ⟨mWrong τ2 (τ2 28 0), -1, hto _ (jr_bad hl ht p3 p4 p5 (by omega) (by omega) p6 (dp := (a : Int)) ⟨by omega, by omega⟩ hww e3 hkd2 h44 (by rw [← ecl]; exact hcl) _ (jr_err hl (by rw [mWrong_0 p6, p5]; omega))), by rw [mWrong_0 p6, p5], ?_⟩
        exact fe_trans (fe_of hfr hw0 hc0) (fe_eq (mEq_wrong (mEq_refl [29] _) (by decide)) (by decide))
