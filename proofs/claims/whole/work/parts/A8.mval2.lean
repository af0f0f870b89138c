/-! ===== the model reads a value as it should be read: the step, the whole (printed by program: gen32.py) ===== -/
theorem jn_V_o5 {β : Bool} {d : Nat} {h : jx_H} (hl : 49 ≤ h.length) {T : Int → Int} {n : Int} (ht : tOK T n) {f : Nat} (ihJ : jn_J β d h T n f) {a : Nat} {p N C : Int} {τ : mS} {c2 c4 : Option Value} (ha : a ≤ 4) (hr : rs T n τ p N C) (hf : 2 * (n - p) + 2 ≤ (f + 1 : Nat)) (hc : tH T n p = 91) :
  (∀ i F q, sP T n (f + 1) (.inl (a, p)) = .inr (i, F, q) → ∃ (τ' : mS) (v : Int) (c4' : Option Value) (N' C' : Int), (∀ res, jx_r (jz β) jw_M (d + 6) 214 (162, [some (.ref 15), some (.int (Int32.ofInt ((a : Int) - 1))), some (.int (Int32.ofInt (v))), some (.int (Int32.ofInt (-1))), c4'], [], ml_mk h τ') res → jx_r (jz β) jw_M (d + 6) 214 (6, [some (.ref 15), some (.int (Int32.ofInt ((a : Int) - 1))), c2, some (.int (Int32.ofInt (-1))), c4], [], ml_mk h τ) res) ∧ rs T n τ' q N' C' ∧ N + 1 ≤ N' ∧ C ≤ C' ∧ N - C + 1 ≤ N' - C' ∧ mV τ' (In N N') (In C C') v i F ∧ fr τ τ' N C a) ∧
  (∀ e, sP T n (f + 1) (.inl (a, p)) = .inl e → ∃ (τ' : mS) (r : Int), jx_r (jz β) jw_M (d + 6) 214 (6, [some (.ref 15), some (.int (Int32.ofInt ((a : Int) - 1))), c2, some (.int (Int32.ofInt (-1))), c4], [], ml_mk h τ) (ml_mk h (τ'), .inl (some (.int (Int32.ofInt (r))))) ∧ τ' 29 0 = -1 - e ∧ fe τ τ') := by
  obtain ⟨r1, r2, r3, r4, r5, r6, r7, r8, r9, r10, r11⟩ := id hr
  obtain ⟨t0, t1, t2⟩ := id ht
  have hh := tH_r (p := p) ht r10
  have hlt := hh.2.2.2 (by omega)
  unfold sP
  rw [if_pos (by omega : tH T n p = 91 ∨ tH T n p = 123)]
  by_cases ha4 : a = 4
  · rw [if_pos ha4]
    refine ⟨fun i F q hx => (by cases hx), fun e hx => ?_⟩
    obtain rfl : p = e := by cases hx; rfl
    exact ⟨mWrong τ p, -1, jr_over5 hl ht r1 r2 r3 r10 r11 r4 (dp := (a : Int) - 1) ⟨by omega, by omega⟩ hc (by omega), mWrong_0 r4, fe_eq (mEq_wrong (mEq_refl [29] _) (by decide)) (by decide)⟩
  rw [if_neg ha4]
  have ek : (if tH T n p = 91 then (5 : Int) else 6) = 5 := by rw [hc]; rfl
  have ec : (if tH T n p = 91 then (93 : Int) else 125) = if (5 : Int) = 5 then 93 else 125 := by rw [hc]; rfl
  have ed : decide (tH T n p = 123) = decide ((5 : Int) = 6) := by rw [hc]; rfl
  rw [ek, ec, ed]
  have hop := fun res => jr_open5 (β := β) (d := d) hl ht r1 r2 r3 r10 r11 r4 (dp := (a : Int) - 1) ⟨by omega, by omega⟩ (c2 := c2) (c4 := c4) r5 (by omega) (by omega) hc (by omega) res
  obtain ⟨m3, m4, m5, m6, m7, m11⟩ := mk_node (k := 5) (x := 0) (t := 0) hr
  obtain ⟨τ1, hτ1⟩ : ∃ τ1, τ1 = (su (su (su (mNode τ 4 5 0 0) 28 (0) (p + 1)) 33 ((a : Int) - 1 + 1) (170 * 4 + (N - 680))) 34 ((a : Int) - 1 + 1) (-1)) := ⟨_, rfl⟩
  rw [← hτ1, show (a : Int) - 1 + 1 = a by omega, show 170 * 4 + (N - 680) = N by omega] at hop
  rw [show (a : Int) - 1 + 1 = a by omega, show 170 * 4 + (N - 680) = N by omega] at hτ1
  have hro : ∀ g, g ∉ [3, 4, 5, 6, 7, 11, 28, 33, 34] → τ1 g = τ g := fun g hg => by
    simp only [List.mem_cons, List.mem_nil_iff, or_false, not_or] at hg
    rw [hτ1, su_row hg.2.2.2.2.2.2.2.2, su_row hg.2.2.2.2.2.2.2.1, su_row hg.2.2.2.2.2.2.1, mNode_o (by simp only [List.mem_cons, List.mem_nil_iff, or_false, not_or]; exact ⟨hg.1, hg.2.1, hg.2.2.1, hg.2.2.2.1, hg.2.2.2.2.1, hg.2.2.2.2.2.1⟩)]
  have q3 : ∀ v, τ1 3 v = if v = N then 5 else τ 3 v := fun v => by rw [hτ1, su_nf (by decide), su_nf (by decide), su_nf (by decide), m3]
  have q4 : ∀ v, τ1 4 v = if v = N then 0 else τ 4 v := fun v => by rw [hτ1, su_nf (by decide), su_nf (by decide), su_nf (by decide), m4]
  have q5 : ∀ v, τ1 5 v = if v = N then 0 else τ 5 v := fun v => by rw [hτ1, su_nf (by decide), su_nf (by decide), su_nf (by decide), m5]
  have q6 : ∀ v, τ1 6 v = if v = N then -1 else τ 6 v := fun v => by rw [hτ1, su_nf (by decide), su_nf (by decide), su_nf (by decide), m6]
  have q7 : ∀ v, τ1 7 v = if v = N then 0 else τ 7 v := fun v => by rw [hτ1, su_nf (by decide), su_nf (by decide), su_nf (by decide), m7]
  have q11 : ∀ v, τ1 11 v = if v = 4 then N - 680 + 1 else τ 11 v := fun v => by rw [hτ1, su_nf (by decide), su_nf (by decide), su_nf (by decide), m11]
  have e1 : τ1 1 = T := by rw [hro 1 (by decide)]; exact r1
  have e2 : τ1 2 0 = n := by rw [hro 2 (by decide)]; exact r2
  have e28 : τ1 28 0 = p + 1 := by rw [hτ1, su_nf (by decide), su_nf (by decide), su_eq]
  have e29 : τ1 29 0 = 0 := by rw [hro 29 (by decide)]; exact r4
  have e33 : τ1 33 a = N := by rw [hτ1, su_nf (by decide), su_eq]
  have e34 : τ1 34 a = -1 := by rw [hτ1, su_eq]
  have eN3 : τ1 3 N = 5 := by rw [q3, if_pos rfl]
  have hww : 0 ≤ N ∧ N < 1740 := by omega
  have hmN : mN τ1 N (5, 0, [], []) 0 := ⟨eN3, by rw [q4, if_pos rfl], by rw [q5, if_pos rfl]; rfl, by rw [q7, if_pos rfl]; rfl⟩
  have hfr : fr τ τ1 N C a := by
    refine ⟨fun f v f1 f2 hv => ?_, fun f x f1 f2 hx => by rw [hro f (by simp; omega)], fun t ht => ?_, fun z hz => ?_, fun f hf => hro f (fun z => hf ?_)⟩
    · obtain rfl | rfl | rfl | rfl | rfl : f = 3 ∨ f = 4 ∨ f = 5 ∨ f = 6 ∨ f = 7 := by omega
      · rw [q3, if_neg (by omega)]
      · rw [q4, if_neg (by omega)]
      · rw [q5, if_neg (by omega)]
      · rw [q6, if_neg (by omega)]
      · rw [q7, if_neg (by omega)]
    · rw [hro 35 (by decide), hτ1, su_nf (by decide), su_ni (by omega), su_nf (by decide), mNode_o (by decide), su_ni (by omega), su_nf (by decide), su_nf (by decide), mNode_o (by decide)]
      exact ⟨rfl, rfl, rfl⟩
    · rw [q11, if_neg hz, hro 12 (by decide)]
      exact ⟨rfl, rfl⟩
    · simp only [List.mem_cons, List.mem_nil_iff, or_false] at z
      unfold frL
      simp only [List.mem_cons, List.mem_nil_iff, or_false]
      omega
  by_cases hcl : tH T n (p + 1) = (if (5 : Int) = 5 then 93 else 125)
  · rw [if_pos hcl]
    have h2 := tH_r (p := p + 1) ht (by omega)
    have hlt2 : p + 1 < n := h2.2.2.2 (by rw [hcl]; decide)
    refine ⟨fun i F q hx => ?_, fun e hx => (by cases hx)⟩
    obtain ⟨rfl, rfl, rfl⟩ : (5, 0, [], []) = i ∧ .leaf = F ∧ p + 1 + 1 = q := by cases hx; exact ⟨rfl, rfl, rfl⟩
    have hT : mEq [28] τ1 (su τ1 28 (0) (p + 1 + 1)) := mEq_su (mEq_refl _ _) (by decide)
    refine ⟨su τ1 28 (0) (p + 1 + 1), N, some (.int (Int32.ofInt N)), N + 1, C, fun res kk => hop _ (jr_clos hl ht e1 e2 e28 (by omega) (by omega) e29 (dp := (a : Int)) ⟨by omega, by omega⟩ hww eN3 (by decide) hcl _ kk), ?_, Int.le_refl _, Int.le_refl _, by omega, ?_, ?_⟩
    · exact ⟨by rw [hT 1 (by decide)]; exact e1, by rw [hT 2 (by decide)]; exact e2, su_eq _ _ _ _, by rw [hT 29 (by decide)]; exact e29, by rw [hT 11 (by decide), q11, if_pos rfl]; omega, by rw [hT 12 (by decide), hro 12 (by decide)]; exact r6, by omega, by omega, by omega, by omega, by omega⟩
    · refine ⟨⟨by omega, by omega⟩, ?_, ?_⟩
      · unfold mN at hmN ⊢
        rw [hT 3 (by decide), hT 4 (by decide), hT 5 (by decide), hT 7 (by decide)]
        exact hmN
      · show su τ1 28 (0) (p + 1 + 1) 6 N = -1
        rw [hT 6 (by decide), q6, if_pos rfl]
    · exact fr_trans hfr (fr_eq hT (by decide)) (Int.le_refl _) (Int.le_refl _) (Int.le_refl _)
  · rw [if_neg hcl]
    have hJ := ihJ (decide ((5 : Int) = 6)) a .leaf (p + 1)
    cases hn : sName (decide ((5 : Int) = 6)) T n (p + 1) with
    | inl e2' =>
      obtain ⟨τ3, y1, y2, y3⟩ := jn_name_er (β := β) (d := d + 2) hl ht e1 e2 e28 (by omega) (by omega) e29 (dp := (a : Int)) ⟨by omega, by omega⟩ e33 hww eN3 ⟨by decide, by decide⟩ hn
      have hee := sName_er (by omega) (by omega) hn
      cases f with
      | zero => exact absurd hf (by omega)
      | succ f =>
        have hsp : sP T n (f + 1) (.inr (decide ((5 : Int) = 6), a, .leaf, p + 1)) = .inl e2' := by
          unfold sP
          rw [hn]
        rw [hsp]
        refine ⟨fun i F q hx => (by cases hx), fun e hx => ?_⟩
        obtain rfl : e2' = e := by cases hx; rfl
        exact ⟨τ3, -1, hop _ (jr_named hl ht e1 e2 e28 (by omega) (by omega) e29 (dp := (a : Int)) ⟨by omega, by omega⟩ hww eN3 (by decide) y1 hcl _ (jr_err hl (by rw [y2]; omega))), y2, fe_trans (fe_of hfr (by omega) (by omega)) (fe_eq y3 (by decide))⟩
    | inr y =>
      obtain ⟨s2, p2⟩ := y
      obtain ⟨τ3, y1, y2, y3, y4, y5⟩ := jn_name_ok (β := β) (d := d + 2) hl ht e1 e2 e28 (by omega) (by omega) e29 (dp := (a : Int)) ⟨by omega, by omega⟩ e33 hww eN3 ⟨by decide, by decide⟩ hn
      obtain ⟨z1, z2, z3⟩ := sName_ok ht (by omega) (by omega) hn
      have hr3 : rs T n τ3 p2 (N + 1) C := ⟨by rw [y4 1 (by decide)]; exact e1, by rw [y4 2 (by decide)]; exact e2, y3, by rw [y4 29 (by decide)]; exact e29, by rw [y4 11 (by decide), q11, if_pos rfl]; omega, by rw [y4 12 (by decide), hro 12 (by decide)]; exact r6, by omega, by omega, by omega, by omega, by omega⟩
      have hc3 : cont τ3 a N 5 C (N + 1) C .leaf := by
        refine ⟨fun _ => False, fun _ => False, fun _ => False, by rw [y4 33 (by decide)]; exact e33, ?_, ?_, fun _ h => absurd h id, fun _ h => absurd h id, fun _ h => absurd h id, fun _ h => absurd h id, ?_⟩
        · unfold mN at hmN ⊢
          rw [y4 3 (by decide), y4 4 (by decide), y4 5 (by decide), y4 7 (by decide)]
          exact hmN
        · show τ3 6 N = -1
          rw [y4 6 (by decide), q6, if_pos rfl]
        · show τ3 34 a = -1
          rw [y4 34 (by decide)]
          exact e34
      obtain ⟨w1, w2⟩ := hJ p2 (N + 1) C C N 5 s2 τ3 (some (.int (Int32.ofInt N))) (by omega) trivial (by omega) (by omega) hn hr3 (by omega) (by decide) y2 (by omega) (by omega) r7 (Int.le_refl _) hc3
      have hfr3 : fr τ τ3 N C a := fr_trans hfr (fr_name y4 y5) (Int.le_refl _) (Int.le_refl _) (Int.le_refl _)
      have hto : ∀ res, jx_r (jz β) jw_M (d + 6) 214 (162, [some (.ref 15), some (.int (Int32.ofInt ((a : Int)))), some (.int (Int32.ofInt (-1))), some (.int (Int32.ofInt (-1))), some (.int (Int32.ofInt (N)))], [], ml_mk h τ3) res → jx_r (jz β) jw_M (d + 6) 214 (6, [some (.ref 15), some (.int (Int32.ofInt ((a : Int) - 1))), c2, some (.int (Int32.ofInt (-1))), c4], [], ml_mk h τ) res := fun res kk => hop _ (jr_named hl ht e1 e2 e28 (by omega) (by omega) e29 (dp := (a : Int)) ⟨by omega, by omega⟩ hww eN3 (by decide) y1 hcl _ kk)
      cases hx2 : sP T n f (.inr (decide ((5 : Int) = 6), a, .leaf, p + 1)) with
      | inl e2' =>
        refine ⟨fun i F q hx => (by cases hx), fun e hx => ?_⟩
        obtain rfl : e2' = e := by cases hx; rfl
        obtain ⟨τ', r, z1, z2, z3⟩ := w2 e2' hx2
        exact ⟨τ', r, hto _ z1, z2, fe_trans (fe_of hfr3 (by omega) (by omega)) z3⟩
      | inr y =>
        obtain ⟨i2, F2, q2⟩ := y
        refine ⟨fun i F q hx => ?_, fun e hx => (by cases hx)⟩
        obtain ⟨rfl, rfl, rfl⟩ : (5, 0, [], []) = i ∧ F2 = F ∧ q2 = q := by cases hx; exact ⟨rfl, rfl, rfl⟩
        obtain ⟨τ', c6, N', C', z1, z2, z3, z4, z5, z6, z7⟩ := w1 i2 F2 q2 hx2
        exact ⟨τ', N, c6, N', C', fun res kk => hto _ (z1 _ kk), z2, z3, z4, by omega, z6, fr_trans hfr3 z7 (Int.le_refl _) (Int.le_refl _) (Int.le_refl _)⟩
theorem jn_V_o6 {β : Bool} {d : Nat} {h : jx_H} (hl : 49 ≤ h.length) {T : Int → Int} {n : Int} (ht : tOK T n) {f : Nat} (ihJ : jn_J β d h T n f) {a : Nat} {p N C : Int} {τ : mS} {c2 c4 : Option Value} (ha : a ≤ 4) (hr : rs T n τ p N C) (hf : 2 * (n - p) + 2 ≤ (f + 1 : Nat)) (hc : tH T n p = 123) :
  (∀ i F q, sP T n (f + 1) (.inl (a, p)) = .inr (i, F, q) → ∃ (τ' : mS) (v : Int) (c4' : Option Value) (N' C' : Int), (∀ res, jx_r (jz β) jw_M (d + 6) 214 (162, [some (.ref 15), some (.int (Int32.ofInt ((a : Int) - 1))), some (.int (Int32.ofInt (v))), some (.int (Int32.ofInt (-1))), c4'], [], ml_mk h τ') res → jx_r (jz β) jw_M (d + 6) 214 (6, [some (.ref 15), some (.int (Int32.ofInt ((a : Int) - 1))), c2, some (.int (Int32.ofInt (-1))), c4], [], ml_mk h τ) res) ∧ rs T n τ' q N' C' ∧ N + 1 ≤ N' ∧ C ≤ C' ∧ N - C + 1 ≤ N' - C' ∧ mV τ' (In N N') (In C C') v i F ∧ fr τ τ' N C a) ∧
  (∀ e, sP T n (f + 1) (.inl (a, p)) = .inl e → ∃ (τ' : mS) (r : Int), jx_r (jz β) jw_M (d + 6) 214 (6, [some (.ref 15), some (.int (Int32.ofInt ((a : Int) - 1))), c2, some (.int (Int32.ofInt (-1))), c4], [], ml_mk h τ) (ml_mk h (τ'), .inl (some (.int (Int32.ofInt (r))))) ∧ τ' 29 0 = -1 - e ∧ fe τ τ') := by
  obtain ⟨r1, r2, r3, r4, r5, r6, r7, r8, r9, r10, r11⟩ := id hr
  obtain ⟨t0, t1, t2⟩ := id ht
  have hh := tH_r (p := p) ht r10
  have hlt := hh.2.2.2 (by omega)
  unfold sP
  rw [if_pos (by omega : tH T n p = 91 ∨ tH T n p = 123)]
  by_cases ha4 : a = 4
  · rw [if_pos ha4]
    refine ⟨fun i F q hx => (by cases hx), fun e hx => ?_⟩
    obtain rfl : p = e := by cases hx; rfl
    exact ⟨mWrong τ p, -1, jr_over6 hl ht r1 r2 r3 r10 r11 r4 (dp := (a : Int) - 1) ⟨by omega, by omega⟩ hc (by omega), mWrong_0 r4, fe_eq (mEq_wrong (mEq_refl [29] _) (by decide)) (by decide)⟩
  rw [if_neg ha4]
  have ek : (if tH T n p = 91 then (5 : Int) else 6) = 6 := by rw [hc]; rfl
  have ec : (if tH T n p = 91 then (93 : Int) else 125) = if (6 : Int) = 5 then 93 else 125 := by rw [hc]; rfl
  have ed : decide (tH T n p = 123) = decide ((6 : Int) = 6) := by rw [hc]; rfl
  rw [ek, ec, ed]
  have hop := fun res => jr_open6 (β := β) (d := d) hl ht r1 r2 r3 r10 r11 r4 (dp := (a : Int) - 1) ⟨by omega, by omega⟩ (c2 := c2) (c4 := c4) r5 (by omega) (by omega) hc (by omega) res
  obtain ⟨m3, m4, m5, m6, m7, m11⟩ := mk_node (k := 6) (x := 0) (t := 0) hr
  obtain ⟨τ1, hτ1⟩ : ∃ τ1, τ1 = (su (su (su (mNode τ 4 6 0 0) 28 (0) (p + 1)) 33 ((a : Int) - 1 + 1) (170 * 4 + (N - 680))) 34 ((a : Int) - 1 + 1) (-1)) := ⟨_, rfl⟩
  rw [← hτ1, show (a : Int) - 1 + 1 = a by omega, show 170 * 4 + (N - 680) = N by omega] at hop
  rw [show (a : Int) - 1 + 1 = a by omega, show 170 * 4 + (N - 680) = N by omega] at hτ1
  have hro : ∀ g, g ∉ [3, 4, 5, 6, 7, 11, 28, 33, 34] → τ1 g = τ g := fun g hg => by
    simp only [List.mem_cons, List.mem_nil_iff, or_false, not_or] at hg
    rw [hτ1, su_row hg.2.2.2.2.2.2.2.2, su_row hg.2.2.2.2.2.2.2.1, su_row hg.2.2.2.2.2.2.1, mNode_o (by simp only [List.mem_cons, List.mem_nil_iff, or_false, not_or]; exact ⟨hg.1, hg.2.1, hg.2.2.1, hg.2.2.2.1, hg.2.2.2.2.1, hg.2.2.2.2.2.1⟩)]
  have q3 : ∀ v, τ1 3 v = if v = N then 6 else τ 3 v := fun v => by rw [hτ1, su_nf (by decide), su_nf (by decide), su_nf (by decide), m3]
  have q4 : ∀ v, τ1 4 v = if v = N then 0 else τ 4 v := fun v => by rw [hτ1, su_nf (by decide), su_nf (by decide), su_nf (by decide), m4]
  have q5 : ∀ v, τ1 5 v = if v = N then 0 else τ 5 v := fun v => by rw [hτ1, su_nf (by decide), su_nf (by decide), su_nf (by decide), m5]
  have q6 : ∀ v, τ1 6 v = if v = N then -1 else τ 6 v := fun v => by rw [hτ1, su_nf (by decide), su_nf (by decide), su_nf (by decide), m6]
  have q7 : ∀ v, τ1 7 v = if v = N then 0 else τ 7 v := fun v => by rw [hτ1, su_nf (by decide), su_nf (by decide), su_nf (by decide), m7]
  have q11 : ∀ v, τ1 11 v = if v = 4 then N - 680 + 1 else τ 11 v := fun v => by rw [hτ1, su_nf (by decide), su_nf (by decide), su_nf (by decide), m11]
  have e1 : τ1 1 = T := by rw [hro 1 (by decide)]; exact r1
  have e2 : τ1 2 0 = n := by rw [hro 2 (by decide)]; exact r2
  have e28 : τ1 28 0 = p + 1 := by rw [hτ1, su_nf (by decide), su_nf (by decide), su_eq]
  have e29 : τ1 29 0 = 0 := by rw [hro 29 (by decide)]; exact r4
  have e33 : τ1 33 a = N := by rw [hτ1, su_nf (by decide), su_eq]
  have e34 : τ1 34 a = -1 := by rw [hτ1, su_eq]
  have eN3 : τ1 3 N = 6 := by rw [q3, if_pos rfl]
  have hww : 0 ≤ N ∧ N < 1740 := by omega
  have hmN : mN τ1 N (6, 0, [], []) 0 := ⟨eN3, by rw [q4, if_pos rfl], by rw [q5, if_pos rfl]; rfl, by rw [q7, if_pos rfl]; rfl⟩
  have hfr : fr τ τ1 N C a := by
    refine ⟨fun f v f1 f2 hv => ?_, fun f x f1 f2 hx => by rw [hro f (by simp; omega)], fun t ht => ?_, fun z hz => ?_, fun f hf => hro f (fun z => hf ?_)⟩
    · obtain rfl | rfl | rfl | rfl | rfl : f = 3 ∨ f = 4 ∨ f = 5 ∨ f = 6 ∨ f = 7 := by omega
      · rw [q3, if_neg (by omega)]
      · rw [q4, if_neg (by omega)]
      · rw [q5, if_neg (by omega)]
      · rw [q6, if_neg (by omega)]
      · rw [q7, if_neg (by omega)]
    · rw [hro 35 (by decide), hτ1, su_nf (by decide), su_ni (by omega), su_nf (by decide), mNode_o (by decide), su_ni (by omega), su_nf (by decide), su_nf (by decide), mNode_o (by decide)]
      exact ⟨rfl, rfl, rfl⟩
    · rw [q11, if_neg hz, hro 12 (by decide)]
      exact ⟨rfl, rfl⟩
    · simp only [List.mem_cons, List.mem_nil_iff, or_false] at z
      unfold frL
      simp only [List.mem_cons, List.mem_nil_iff, or_false]
      omega
  by_cases hcl : tH T n (p + 1) = (if (6 : Int) = 5 then 93 else 125)
  · rw [if_pos hcl]
    have h2 := tH_r (p := p + 1) ht (by omega)
    have hlt2 : p + 1 < n := h2.2.2.2 (by rw [hcl]; decide)
    refine ⟨fun i F q hx => ?_, fun e hx => (by cases hx)⟩
    obtain ⟨rfl, rfl, rfl⟩ : (6, 0, [], []) = i ∧ .leaf = F ∧ p + 1 + 1 = q := by cases hx; exact ⟨rfl, rfl, rfl⟩
    have hT : mEq [28] τ1 (su τ1 28 (0) (p + 1 + 1)) := mEq_su (mEq_refl _ _) (by decide)
    refine ⟨su τ1 28 (0) (p + 1 + 1), N, some (.int (Int32.ofInt N)), N + 1, C, fun res kk => hop _ (jr_clos hl ht e1 e2 e28 (by omega) (by omega) e29 (dp := (a : Int)) ⟨by omega, by omega⟩ hww eN3 (by decide) hcl _ kk), ?_, Int.le_refl _, Int.le_refl _, by omega, ?_, ?_⟩
    · exact ⟨by rw [hT 1 (by decide)]; exact e1, by rw [hT 2 (by decide)]; exact e2, su_eq _ _ _ _, by rw [hT 29 (by decide)]; exact e29, by rw [hT 11 (by decide), q11, if_pos rfl]; omega, by rw [hT 12 (by decide), hro 12 (by decide)]; exact r6, by omega, by omega, by omega, by omega, by omega⟩
    · refine ⟨⟨by omega, by omega⟩, ?_, ?_⟩
      · unfold mN at hmN ⊢
        rw [hT 3 (by decide), hT 4 (by decide), hT 5 (by decide), hT 7 (by decide)]
        exact hmN
      · show su τ1 28 (0) (p + 1 + 1) 6 N = -1
        rw [hT 6 (by decide), q6, if_pos rfl]
    · exact fr_trans hfr (fr_eq hT (by decide)) (Int.le_refl _) (Int.le_refl _) (Int.le_refl _)
  · rw [if_neg hcl]
    have hJ := ihJ (decide ((6 : Int) = 6)) a .leaf (p + 1)
    cases hn : sName (decide ((6 : Int) = 6)) T n (p + 1) with
    | inl e2' =>
      obtain ⟨τ3, y1, y2, y3⟩ := jn_name_er (β := β) (d := d + 2) hl ht e1 e2 e28 (by omega) (by omega) e29 (dp := (a : Int)) ⟨by omega, by omega⟩ e33 hww eN3 ⟨by decide, by decide⟩ hn
      have hee := sName_er (by omega) (by omega) hn
      cases f with
      | zero => exact absurd hf (by omega)
      | succ f =>
        have hsp : sP T n (f + 1) (.inr (decide ((6 : Int) = 6), a, .leaf, p + 1)) = .inl e2' := by
          unfold sP
          rw [hn]
        rw [hsp]
        refine ⟨fun i F q hx => (by cases hx), fun e hx => ?_⟩
        obtain rfl : e2' = e := by cases hx; rfl
        exact ⟨τ3, -1, hop _ (jr_named hl ht e1 e2 e28 (by omega) (by omega) e29 (dp := (a : Int)) ⟨by omega, by omega⟩ hww eN3 (by decide) y1 hcl _ (jr_err hl (by rw [y2]; omega))), y2, fe_trans (fe_of hfr (by omega) (by omega)) (fe_eq y3 (by decide))⟩
    | inr y =>
      obtain ⟨s2, p2⟩ := y
      obtain ⟨τ3, y1, y2, y3, y4, y5⟩ := jn_name_ok (β := β) (d := d + 2) hl ht e1 e2 e28 (by omega) (by omega) e29 (dp := (a : Int)) ⟨by omega, by omega⟩ e33 hww eN3 ⟨by decide, by decide⟩ hn
      obtain ⟨z1, z2, z3⟩ := sName_ok ht (by omega) (by omega) hn
      have hr3 : rs T n τ3 p2 (N + 1) C := ⟨by rw [y4 1 (by decide)]; exact e1, by rw [y4 2 (by decide)]; exact e2, y3, by rw [y4 29 (by decide)]; exact e29, by rw [y4 11 (by decide), q11, if_pos rfl]; omega, by rw [y4 12 (by decide), hro 12 (by decide)]; exact r6, by omega, by omega, by omega, by omega, by omega⟩
      have hc3 : cont τ3 a N 6 C (N + 1) C .leaf := by
        refine ⟨fun _ => False, fun _ => False, fun _ => False, by rw [y4 33 (by decide)]; exact e33, ?_, ?_, fun _ h => absurd h id, fun _ h => absurd h id, fun _ h => absurd h id, fun _ h => absurd h id, ?_⟩
        · unfold mN at hmN ⊢
          rw [y4 3 (by decide), y4 4 (by decide), y4 5 (by decide), y4 7 (by decide)]
          exact hmN
        · show τ3 6 N = -1
          rw [y4 6 (by decide), q6, if_pos rfl]
        · show τ3 34 a = -1
          rw [y4 34 (by decide)]
          exact e34
      obtain ⟨w1, w2⟩ := hJ p2 (N + 1) C C N 6 s2 τ3 (some (.int (Int32.ofInt N))) (by omega) trivial (by omega) (by omega) hn hr3 (by omega) (by decide) y2 (by omega) (by omega) r7 (Int.le_refl _) hc3
      have hfr3 : fr τ τ3 N C a := fr_trans hfr (fr_name y4 y5) (Int.le_refl _) (Int.le_refl _) (Int.le_refl _)
      have hto : ∀ res, jx_r (jz β) jw_M (d + 6) 214 (162, [some (.ref 15), some (.int (Int32.ofInt ((a : Int)))), some (.int (Int32.ofInt (-1))), some (.int (Int32.ofInt (-1))), some (.int (Int32.ofInt (N)))], [], ml_mk h τ3) res → jx_r (jz β) jw_M (d + 6) 214 (6, [some (.ref 15), some (.int (Int32.ofInt ((a : Int) - 1))), c2, some (.int (Int32.ofInt (-1))), c4], [], ml_mk h τ) res := fun res kk => hop _ (jr_named hl ht e1 e2 e28 (by omega) (by omega) e29 (dp := (a : Int)) ⟨by omega, by omega⟩ hww eN3 (by decide) y1 hcl _ kk)
      cases hx2 : sP T n f (.inr (decide ((6 : Int) = 6), a, .leaf, p + 1)) with
      | inl e2' =>
        refine ⟨fun i F q hx => (by cases hx), fun e hx => ?_⟩
        obtain rfl : e2' = e := by cases hx; rfl
        obtain ⟨τ', r, z1, z2, z3⟩ := w2 e2' hx2
        exact ⟨τ', r, hto _ z1, z2, fe_trans (fe_of hfr3 (by omega) (by omega)) z3⟩
      | inr y =>
        obtain ⟨i2, F2, q2⟩ := y
        refine ⟨fun i F q hx => ?_, fun e hx => (by cases hx)⟩
        obtain ⟨rfl, rfl, rfl⟩ : (6, 0, [], []) = i ∧ F2 = F ∧ q2 = q := by cases hx; exact ⟨rfl, rfl, rfl⟩
        obtain ⟨τ', c6, N', C', z1, z2, z3, z4, z5, z6, z7⟩ := w1 i2 F2 q2 hx2
        exact ⟨τ', N, c6, N', C', fun res kk => hto _ (z1 _ kk), z2, z3, z4, by omega, z6, fr_trans hfr3 z7 (Int.le_refl _) (Int.le_refl _) (Int.le_refl _)⟩
theorem jn_V_s {β : Bool} {d : Nat} {h : jx_H} (hl : 49 ≤ h.length) {T : Int → Int} {n : Int} (ht : tOK T n) {f : Nat} (ihJ : jn_J β d h T n f) : jn_V β d h T n (f + 1) := by
  intro a p N C τ c2 c4 ha hr hf
  by_cases h91 : tH T n p = 91
  · exact jn_V_o5 hl ht ihJ ha hr hf h91
  by_cases h123 : tH T n p = 123
  · exact jn_V_o6 hl ht ihJ ha hr hf h123
  obtain ⟨r1, r2, r3, r4, r5, r6, r7, r8, r9, r10, r11⟩ := id hr
  obtain ⟨t0, t1, t2⟩ := id ht
  unfold sP
  rw [if_neg (by omega : ¬ (tH T n p = 91 ∨ tH T n p = 123))]
  cases hx : sPlain T n p with
  | inl e2 =>
    refine ⟨fun i F q hh => (by cases hh), fun e hh => ?_⟩
    obtain rfl : e2 = e := by cases hh; rfl
    have hee := sPlain_er ht r10 r11 hx
    obtain ⟨τ', y1, y2, y3⟩ := jn_plain_er (β := β) (d := d + 1) hl ht r1 r2 r3 r10 r11 r4 r5 (by omega) (by omega) hx
    exact ⟨τ', -1, jr_plain hl ht r1 r2 r3 r10 r11 r4 (dp := (a : Int) - 1) ⟨by omega, by omega⟩ h91 h123 y1 _ (jr_err hl (by rw [y2]; omega)), y2, fe_eq y3 (by decide)⟩
  | inr y =>
    obtain ⟨i2, q2⟩ := y
    refine ⟨fun i F q hh => ?_, fun e hh => (by cases hh)⟩
    obtain ⟨rfl, rfl, rfl⟩ : i2 = i ∧ .leaf = F ∧ q2 = q := by cases hh; exact ⟨rfl, rfl, rfl⟩
    obtain ⟨g1, g2, g3, g4, g5⟩ := sPlain_ok ht r10 r11 hx
    obtain ⟨τ0, y1, y2, y3⟩ := jn_plain_ok (β := β) (d := d + 1) hl ht r1 r2 r3 r10 r11 r4 r5 (by omega) (by omega) hx
    rw [show 170 * 4 + (N - 680) = N by omega] at y1
    have hr0 : rs T n τ0 q2 N C := ⟨by rw [y2 1 (by decide)]; exact r1, by rw [y2 2 (by decide)]; exact r2, y3, by rw [y2 29 (by decide)]; exact r4, by rw [y2 11 (by decide)]; exact r5, by rw [y2 12 (by decide)]; exact r6, r7, r8, by omega, by omega, g2⟩
    obtain ⟨m3, m4, m5, m6, m7, m11⟩ := mk_node (k := i2.1) (x := i2.2.1) (t := pk i2.2.2.1) hr0
    have ho : ∀ g, g ∉ [3, 4, 5, 6, 7, 11, 28, 31, 32] → mNode τ0 4 i2.1 i2.2.1 (pk i2.2.2.1) g = τ g := fun g hg => by
      simp only [List.mem_cons, List.mem_nil_iff, or_false, not_or] at hg
      rw [mNode_o (by simp only [List.mem_cons, List.mem_nil_iff, or_false, not_or]; exact ⟨hg.1, hg.2.1, hg.2.2.1, hg.2.2.2.1, hg.2.2.2.2.1, hg.2.2.2.2.2.1⟩), y2 g (by simp only [List.mem_cons, List.mem_nil_iff, or_false, not_or]; exact ⟨hg.2.2.2.2.2.2.1, hg.2.2.2.2.2.2.2.1, hg.2.2.2.2.2.2.2.2⟩)]
    refine ⟨mNode τ0 4 i2.1 i2.2.1 (pk i2.2.2.1), N, c4, N + 1, C, fun res kk => jr_plain hl ht r1 r2 r3 r10 r11 r4 (dp := (a : Int) - 1) ⟨by omega, by omega⟩ h91 h123 y1 _ kk, ?_, Int.le_refl _, Int.le_refl _, by omega, ?_, ?_⟩
    · exact ⟨by rw [ho 1 (by decide)]; exact r1, by rw [ho 2 (by decide)]; exact r2, by rw [mNode_o (by decide)]; exact y3, by rw [ho 29 (by decide)]; exact r4, by rw [m11, if_pos rfl]; omega, by rw [ho 12 (by decide)]; exact r6, r7, by omega, by omega, by omega, g2⟩
    · refine ⟨⟨by omega, by omega⟩, ⟨by rw [m3, if_pos rfl], by rw [m4, if_pos rfl], by rw [m5, if_pos rfl], by rw [m7, if_pos rfl]; rfl⟩, ?_⟩
      show mNode τ0 4 i2.1 i2.2.1 (pk i2.2.2.1) 6 N = -1
      rw [m6, if_pos rfl]
    · refine ⟨fun f v f1 f2 hv => ?_, fun f x f1 f2 hx => by rw [ho f (by simp; omega)], fun t _ => by rw [ho 33 (by decide), ho 34 (by decide), ho 35 (by decide)]; exact ⟨rfl, rfl, rfl⟩, fun z hz => by rw [m11, if_neg hz, ho 12 (by decide), y2 11 (by decide)]; exact ⟨rfl, rfl⟩, fun f hf => ho f (fun z => hf ?_)⟩
      · obtain rfl | rfl | rfl | rfl | rfl : f = 3 ∨ f = 4 ∨ f = 5 ∨ f = 6 ∨ f = 7 := by omega
        · rw [m3, if_neg (by omega), y2 3 (by decide)]
        · rw [m4, if_neg (by omega), y2 4 (by decide)]
        · rw [m5, if_neg (by omega), y2 5 (by decide)]
        · rw [m6, if_neg (by omega), y2 6 (by decide)]
        · rw [m7, if_neg (by omega), y2 7 (by decide)]
      · simp only [List.mem_cons, List.mem_nil_iff, or_false] at z
        unfold frL
        simp only [List.mem_cons, List.mem_nil_iff, or_false]
        omega
theorem jn_VJ {β : Bool} {d : Nat} {h : jx_H} (hl : 49 ≤ h.length) {T : Int → Int} {n : Int} (ht : tOK T n) : ∀ f : Nat, jn_V β d h T n f ∧ jn_J β d h T n f := by
  intro f
  induction f with
  | zero =>
    refine ⟨fun a p N C τ c2 c4 ha hr hf => absurd hf ?_, fun ob a F p p1 N C c0 w kd s τ c4 ha hF h0 hp hn hr hf => absurd hf ?_⟩
    · have := hr.2.2.2.2.2.2.2.2.2.2
      omega
    · omega
  | succ f ih => exact ⟨jn_V_s hl ht ih.2, jn_J_s hl ht ih.1 ih.2⟩
