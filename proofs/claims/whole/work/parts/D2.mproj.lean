/-! ===== project (printed by program: gen51.py) ===== -/
/-- a level below: from where, and whether it fits -/
def bsR (σ : mS) : Int → List (Int × Bool) → Prop
  | _, [] => True
  | k, s :: l => (σ 38 k = s.1 ∧ σ 39 k = if s.2 = true then 1 else 2) ∧ bsR σ (k + 1) l
theorem bsR_fr {σ τ : mS} : ∀ (l : List (Int × Bool)) (k : Int), (∀ j, k ≤ j → j < k + l.length → τ 38 j = σ 38 j ∧ τ 39 j = σ 39 j) → bsR σ k l → bsR τ k l
  | [], _, _, _ => trivial
  | s :: l, k, hu, h => by
    obtain ⟨e1, e2⟩ := hu k (Int.le_refl k) (by simp; omega)
    refine ⟨⟨by rw [e1]; exact h.1.1, by rw [e2]; exact h.1.2⟩, bsR_fr l (k + 1) (fun j h1 h2 => hu j (by omega) (by simp; omega)) h.2⟩
theorem mV_f2 {σ τ : mS} {A B : Int → Prop} {N w : Int} {i : tI} {c : FT} (h7 : ∀ f v, 3 ≤ f → f ≤ 7 → v < N → τ f v = σ f v) (h10 : ∀ f, 8 ≤ f → f ≤ 10 → τ f = σ f) (hA : ∀ v, A v → v < N) (h : mV σ A B w i c) : mV τ A B w i c := by
  have hA3 : ∀ v, A v → τ 3 v = σ 3 v ∧ τ 4 v = σ 4 v ∧ τ 5 v = σ 5 v ∧ τ 6 v = σ 6 v ∧ τ 7 v = σ 7 v := fun v hv => ⟨h7 3 v (by decide) (by decide) (hA v hv), h7 4 v (by decide) (by decide) (hA v hv), h7 5 v (by decide) (by decide) (hA v hv), h7 6 v (by decide) (by decide) (hA v hv), h7 7 v (by decide) (by decide) (hA v hv)⟩
  obtain ⟨a1, ⟨n1, n2, n3, n4⟩, hF⟩ := h
  obtain ⟨x1, x2, x3, x4, x5⟩ := hA3 w a1
  exact ⟨a1, ⟨x1.trans n1, x2.trans n2, x3.trans n3, x5.trans n4⟩, by rw [x4]; exact mF_frame hA3 (fun x _ => ⟨by rw [h10 8 (by decide) (by decide)], by rw [h10 9 (by decide) (by decide)], by rw [h10 10 (by decide) (by decide)]⟩) c _ hF⟩
theorem mF_fr {σ τ : mS} {A B : Int → Prop} {N : Int} (h7 : ∀ f v, 3 ≤ f → f ≤ 7 → v < N → τ f v = σ f v) (h10 : ∀ f, 8 ≤ f → f ≤ 10 → τ f = σ f) (hA : ∀ v, A v → v < N) {c : FT} {x : Int} (h : mF σ A B c x) : mF τ A B c x := by
  have hA3 : ∀ v, A v → τ 3 v = σ 3 v ∧ τ 4 v = σ 4 v ∧ τ 5 v = σ 5 v ∧ τ 6 v = σ 6 v ∧ τ 7 v = σ 7 v := fun v hv => ⟨h7 3 v (by decide) (by decide) (hA v hv), h7 4 v (by decide) (by decide) (hA v hv), h7 5 v (by decide) (by decide) (hA v hv), h7 6 v (by decide) (by decide) (hA v hv), h7 7 v (by decide) (by decide) (hA v hv)⟩
  exact mF_frame hA3 (fun x _ => ⟨by rw [h10 8 (by decide) (by decide)], by rw [h10 9 (by decide) (by decide)], by rw [h10 10 (by decide) (by decide)]⟩) c _ h
theorem mO_fr {σ τ : mS} {A B : Int → Prop} {N w : Int} {x : Option vT} (h7 : ∀ f v, 3 ≤ f → f ≤ 7 → v < N → τ f v = σ f v) (h10 : ∀ f, 8 ≤ f → f ≤ 10 → τ f = σ f) (hA : ∀ v, A v → v < N) (h : mO σ A B w x) : mO τ A B w x := by
  cases x with
  | none => exact h
  | some y => exact mV_f2 h7 h10 hA h
/-- what project's loops leave alone: nodes below N, slots below p, states below t -/
def pjF (σ τ : mS) (N p t : Int) : Prop := (∀ f v, 3 ≤ f → f ≤ 7 → v < N → τ f v = σ f v) ∧ (∀ f v, 37 ≤ f → f ≤ 38 → v < p → τ f v = σ f v) ∧ (∀ v, v < t → τ 39 v = σ 39 v) ∧ (∀ f, f ∉ [3, 4, 5, 6, 7, 11, 36, 37, 38, 39, 43, 44] → τ f = σ f) ∧ ∀ v, τ 11 v = σ 11 v
theorem pjF_refl (σ : mS) (N p t : Int) : pjF σ σ N p t := ⟨fun _ _ _ _ _ => rfl, fun _ _ _ _ _ => rfl, fun _ _ => rfl, fun _ _ => rfl, fun _ => rfl⟩
theorem pjF_trans {σ τ υ : mS} {N p t p' t' : Int} (h : pjF σ τ N p t) (h2 : pjF τ υ N p' t') (hp : p ≤ p') (ht : t ≤ t') : pjF σ υ N p t := ⟨fun f v f1 f2 hv => (h2.1 f v f1 f2 hv).trans (h.1 f v f1 f2 hv), fun f v f1 f2 hv => (h2.2.1 f v f1 f2 (by omega)).trans (h.2.1 f v f1 f2 hv), fun v hv => (h2.2.2.1 v (by omega)).trans (h.2.2.1 v hv), fun f hf => (h2.2.2.2.1 f hf).trans (h.2.2.2.1 f hf), fun v => (h2.2.2.2.2 v).trans (h.2.2.2.2 v)⟩
theorem pjF_en {σ τ : mS} {p t : Int} (N : Int) (h : enF σ τ p) (ht : t ≤ p) : pjF σ τ N p t := ⟨fun f v f1 f2 _ => by rw [h.2 f (by simp; omega)], fun f v f1 f2 hv => h.1 f v f1 (by omega) hv, fun v hv => h.1 39 v (by decide) (by decide) (by omega), fun f hf => h.2 f (by simp only [List.mem_cons, List.mem_nil_iff, or_false, not_or] at hf ⊢; omega), fun v => by rw [h.2 11 (by decide)]⟩
theorem pjF_ho {σ τ : mS} {N : Int} (p t : Int) (h : hoF σ τ N) : pjF σ τ N p t := ⟨h.1, fun f v f1 f2 _ => by rw [h.2.1 f (by simp; omega)], fun v _ => by rw [h.2.1 39 (by decide)], fun f hf => h.2.1 f (by simp only [List.mem_cons, List.mem_nil_iff, or_false, not_or] at hf ⊢; omega), h.2.2⟩
theorem pjF_10 {σ τ : mS} {N p t : Int} (h : pjF σ τ N p t) : ∀ f, 8 ≤ f → f ≤ 10 → τ f = σ f := fun f f1 f2 => h.2.2.2.1 f (by simp; omega)
theorem mO_pj {σ τ : mS} {A B : Int → Prop} {N p t w : Int} {x : Option vT} (h : pjF σ τ N p t) (hA : ∀ v, A v → v < N) (hx : mO σ A B w x) : mO τ A B w x := mO_fr h.1 (pjF_10 h) hA hx
/-- the projecting step e stands at the place s -/
def prR (σ : mS) (s : Int) (e : sE) : Prop := (2 ≤ e.1 ∧ e.1 ≤ 5) ∧ (e.1 = 4 → (0 ≤ s ∧ s < 144) ∧ sdR σ (2 * s) e.2.2.2.2.1 ∧ ((e.2.2.2.2.2.1 = 0 ∧ σ 23 (2 * s + 1) = 0) ∨ (sdR σ (2 * s + 1) e.2.2.2.2.2 ∧ σ 22 s = e.2.2.2.1 ∧ 1 ≤ e.2.2.2.1 ∧ e.2.2.2.1 ≤ 6))) ∧ (e.1 = 5 → (0 ≤ s ∧ s < 144) ∧ nuR σ s e.2.2.1 ∧ ¬ slC e.2.2.1 = 0)
theorem sdR_fr {σ τ : mS} (h : ∀ f, 23 ≤ f → f ≤ 27 → τ f = σ f) {dd : Int} {s : sD} (hs : sdR σ dd s) : sdR τ dd s := by
  unfold sdR at hs ⊢
  rw [h 23 (by decide) (by decide), h 24 (by decide) (by decide), h 26 (by decide) (by decide), h 27 (by decide) (by decide)]
  exact ⟨hs.1, hs.2.1, fun z => ⟨(hs.2.2.1 z).1, (hs.2.2.1 z).2.1, pthR_eq (h 25 (by decide) (by decide)) _ _ (hs.2.2.1 z).2.2⟩, hs.2.2.2⟩
theorem nuR_fr {σ τ : mS} (h : ∀ f, 20 ≤ f → f ≤ 27 → τ f = σ f) {s : Int} {p : Int × Int × Int × Int} (hs : nuR σ s p) : nuR τ s p := by
  unfold nuR at hs ⊢
  rw [h 20 (by decide) (by decide), h 21 (by decide) (by decide)]
  exact hs
theorem prR_fr {σ τ : mS} (h : ∀ f, 20 ≤ f → f ≤ 27 → τ f = σ f) {s : Int} {e : sE} (hs : prR σ s e) : prR τ s e := by
  have h3 : ∀ f, 23 ≤ f → f ≤ 27 → τ f = σ f := fun f f1 f2 => h f (by omega) f2
  refine ⟨hs.1, fun z => ?_, fun z => ⟨(hs.2.2 z).1, nuR_fr h (hs.2.2 z).2.1, (hs.2.2 z).2.2⟩⟩
  obtain ⟨z1, z2, z3⟩ := hs.2.1 z
  refine ⟨z1, sdR_fr h3 z2, ?_⟩
  rcases z3 with ⟨a, b⟩ | ⟨a, b, c⟩
  · exact Or.inl ⟨a, by rw [h3 23 (by decide) (by decide)]; exact b⟩
  · exact Or.inr ⟨sdR_fr h3 a, by rw [h 22 (by decide) (by decide)]; exact b, c⟩
theorem prR_pj {σ τ : mS} {N p t s : Int} {e : sE} (h : pjF σ τ N p t) (hs : prR σ s e) : prR τ s e := prR_fr (fun f f1 f2 => h.2.2.2.1 f (by simp; omega)) hs
def selI (e : sE) (F : FT) : List vT := if e.1 = 4 then (sib F).filter (fun v => holS e.2.2.2.1 e.2.2.2.2.1 e.2.2.2.2.2 v) else sib F
theorem selI_y {e : sE} {s : Nat} {i : tI} {u : Unit} {c n : FT} (h : e.1 = 4 → holS e.2.2.2.1 e.2.2.2.2.1 e.2.2.2.2.2 (i, c) = true) : selI e (.inner s i u c n) = (i, c) :: selI e n := by
  unfold selI
  by_cases h4 : e.1 = 4
  · rw [if_pos h4, if_pos h4]
    exact List.filter_cons_of_pos (h h4)
  · rw [if_neg h4, if_neg h4]
    rfl
theorem selI_n {e : sE} {s : Nat} {i : tI} {u : Unit} {c n : FT} (h4 : e.1 = 4) (h : ¬ holS e.2.2.2.1 e.2.2.2.2.1 e.2.2.2.2.2 (i, c) = true) : selI e (.inner s i u c n) = selI e n := by
  unfold selI
  rw [if_pos h4, if_pos h4]
  exact List.filter_cons_of_neg h
theorem selI_S {e : sE} (h2 : 2 ≤ e.1 ∧ e.1 ≤ 4) (F : FT) : selS e F = selI e F := by
  unfold selI selS
  by_cases h4 : e.1 = 4
  · rw [if_pos h4, if_pos h4]
  · rw [if_neg h4, if_neg h4, if_neg (by omega), if_neg (by omega)]
theorem jn_pj_in {β : Bool} {d : Nat} {h : jx_H} (hl : 49 ≤ h.length) {A B : Int → Prop} {s fi bh k v nn N : Int} {e : sE} (hA : ∀ v, A v → 0 ≤ v ∧ v < N) (hB : mIx B) (hn0 : 0 ≤ nn) (hN : N = 170 * 4 + nn) (hn1 : N + 1 < 1740) : ∀ (G : FT) (x p : Int) (σ : mS), prR σ s e → mF σ A B G x → fwf G → fct G ≤ 390 → σ 11 4 = nn → σ 36 0 = p → 0 ≤ p → p + (selI e G).length ≤ 400 →
    ∃ τ : mS, (∀ res, jx_r (jz β) jw_M (d + 3) 268 (204, [some (.ref 15), some (.int (Int32.ofInt (e.1))), some (.int (Int32.ofInt (s))), some (.int (Int32.ofInt (fi))), some (.int (Int32.ofInt (bh))), some (.int (Int32.ofInt (k))), some (.int (Int32.ofInt (v))), some (.int (Int32.ofInt (1))), some (.int (Int32.ofInt (-1)))], [], ml_mk h τ) res → jx_r (jz β) jw_M (d + 3) 268 (153, [some (.ref 15), some (.int (Int32.ofInt (e.1))), some (.int (Int32.ofInt (s))), some (.int (Int32.ofInt (fi))), some (.int (Int32.ofInt (bh))), some (.int (Int32.ofInt (k))), some (.int (Int32.ofInt (v))), some (.int (Int32.ofInt (1))), some (.int (Int32.ofInt (x)))], [], ml_mk h σ) res) ∧ pjF σ τ N p p ∧ τ 36 0 = p + (selI e G).length ∧ tpR τ A B p ((selI e G).map fun u => (k, some u))
  | .leaf, x, p, σ, hP, hF, hw, hc, e11, e36, hp, hr => by
    have hx : x = -1 := hF
    subst hx
    have hz : selI e .leaf = [] := by
      unfold selI
      split
      · rfl
      · rfl
    rw [hz]
    refine ⟨σ, fun res kk => ?_, pjF_refl σ N p p, by rw [e36]; simp, trivial⟩
    refine jr_1 jm_268 (show jw_cd cd_268 153 = some (.iload 8) by decide +kernel) rfl ?_
    refine jr_1 jm_268 (show jw_cd cd_268 155 = some (.iconst (-1)) by decide +kernel) rfl ?_
    refine jr_1 jm_268 (show jw_cd cd_268 156 = some (.if_icmp .eq 48) by decide +kernel) (mb_t (q := .eq) (a := -1) (b := -1) (t := 204) (by show -1 = -1; omega) ⟨by omega, by omega⟩ ⟨by omega, by omega⟩ (by decide) (by decide)) ?_
    exact kk
  | .inner s0 i u0 c n, x, p, σ, hP, hF, hw, hc, e11, e36, hp, hr => by
    obtain ⟨h1, h2, h3, h4, h5, h6⟩ := hF
    have hx := hB x h1
    obtain ⟨y, hy⟩ : ∃ y, y = σ 8 x := ⟨_, rfl⟩
    have e8 : σ 8 x = y := hy.symm
    rw [e8] at h2 h4 h5
    have hyr := hA y h2
    have hV : mV σ A B y i c := ⟨h2, h4, h5⟩
    have hsb := sib_ok _ hw (i, c) (List.mem_cons_self ..)
    have hc : 1 + fct c + fct n ≤ 390 := hc
    have hw2 : fwf n := hw.2.2
    have hAN : ∀ v, A v → v < N := fun v hv => (hA v hv).2
    obtain ⟨p1, p2⟩ := hP.1
    by_cases he : e.1 = 4
    · obtain ⟨q1, q2, q3⟩ := hP.2.1 he
      obtain ⟨τ1, r1, r2⟩ := jn_holds (β := β) (d := d) (h := h) (σ := σ) hl q1 hA hB q2 q3 e11 hn0 hN hn1 hV hsb.1 hsb.2 (by omega)
      have e8b : τ1 8 x = y := by rw [r2.2.1 8 (by decide)]; exact e8
      have e10b : τ1 10 x = σ 10 x := by rw [r2.2.1 10 (by decide)]
      have f1 := pjF_ho p p r2
      have f36 : τ1 36 0 = p := by rw [r2.2.1 36 (by decide)]; exact e36
      have f11 : τ1 11 4 = nn := by rw [r2.2.2]; exact e11
      by_cases hh : holS e.2.2.2.1 e.2.2.2.2.1 e.2.2.2.2.2 (i, c) = true
      · rw [if_pos hh] at r1
        rw [selI_y (fun _ => hh)] at hr ⊢
        have hll : (((i, c) :: selI e n).length : Int) = (selI e n).length + 1 := by simp
        obtain ⟨z1, z2, z3, z4⟩ := en_1 (σ := τ1) (v := y) (w := k) f36
        have f2 := pjF_trans f1 (pjF_en N z1 (Int.le_refl p)) (Int.le_refl p) (Int.le_refl p)
        have e10c : mEnter τ1 y k 10 x = σ 10 x := by rw [z1.2 10 (by decide)]; exact e10b
        obtain ⟨τ, y1, y2, y3, y4⟩ := jn_pj_in (β := β) (d := d) (s := s) (fi := fi) (bh := bh) (k := k) (v := v) hl hA hB hn0 hN hn1 n (σ 10 x) (p + 1) (mEnter τ1 y k) (prR_pj f2 hP) (mF_fr f2.1 (pjF_10 f2) hAN h6) hw2 (by omega) (by rw [f2.2.2.2.2]; exact e11) z2 (by omega) (by omega)
        refine ⟨τ, fun res kk => ?_, pjF_trans f2 y2 (by omega) (by omega), by rw [y3, hll]; omega, ⟨⟨?_, ?_⟩, y4⟩⟩
        rotate_left
        · rw [y2.2.1 38 p (by decide) (by decide) (by omega), z4]
        · rw [y2.2.1 37 p (by decide) (by decide) (by omega), z3]
          exact mO_pj y2 hAN (mO_pj f2 hAN hV)
        refine jr_1 jm_268 (show jw_cd cd_268 153 = some (.iload 8) by decide +kernel) rfl ?_
        refine jr_1 jm_268 (show jw_cd cd_268 155 = some (.iconst (-1)) by decide +kernel) rfl ?_
        refine jr_1 jm_268 (show jw_cd cd_268 156 = some (.if_icmp .eq 48) by decide +kernel) (mb_f (q := .eq) (a := x) (b := -1) (by show ¬ (x = -1); omega) ⟨by omega, by omega⟩ ⟨by omega, by omega⟩ (by decide)) ?_
        refine jr_1 jm_268 (show jw_cd cd_268 159 = some (.iload_n 1) by decide +kernel) rfl ?_
        refine jr_1 jm_268 (show jw_cd cd_268 160 = some (.iconst 4) by decide +kernel) rfl ?_
        refine jr_1 jm_268 (show jw_cd cd_268 161 = some (.if_icmp .ne 18) by decide +kernel) (mb_f (q := .ne) (a := e.1) (b := 4) (by show ¬ (¬ (e.1 = 4)); omega) ⟨by omega, by omega⟩ ⟨by omega, by omega⟩ (by decide)) ?_
        refine jr_1 jm_268 (show jw_cd cd_268 164 = some (.aload_n 0) by decide +kernel) rfl ?_
        refine jr_1 jm_268 (show jw_cd cd_268 165 = some (.iload_n 2) by decide +kernel) rfl ?_
        refine jr_1 jm_268 (show jw_cd cd_268 166 = some (.aload_n 0) by decide +kernel) rfl ?_
        refine jr_1 jm_268 (show jw_cd cd_268 167 = some (.getfield 29) by decide +kernel) (mg_a hl (a := 22) (show jw_fld 34 29 16 = some 8 by decide +kernel) (by decide) (by decide)) ?_
        refine jr_1 jm_268 (show jw_cd cd_268 170 = some (.iload 8) by decide +kernel) rfl ?_
        refine jr_1 jm_268 (show jw_cd cd_268 172 = some (.iaload) by decide +kernel) (ma_i hl (i := x) (e := y) 8 (by omega) (by show _ < ((1740 : Nat) : Int); omega) e8 (by decide) (by decide) (by decide)) ?_
        refine jr_c jm_268 (show jw_cd cd_268 173 = some (.invokevirtual 290) by decide +kernel) (mc_v hl (n := 2) (m2 := 270) (bs := [.int (Int32.ofInt (s)), .int (Int32.ofInt (y))]) (r := []) (show jw_find jw_cvT 34 290 = some (2, [(16, 270)]) by decide +kernel) (by decide) rfl rfl rfl) jm_270 ⟨Nat.le_of_ble_eq_true rfl, by decide⟩ r1 ?_
        refine jr_1 jm_268 (show jw_cd cd_268 176 = some (.ifCond .eq 16) by decide +kernel) (mz_f (q := .eq) (a := 1) (by show ¬ (1 = 0); omega) ⟨by omega, by omega⟩ (by decide)) ?_
        refine jr_1 jm_268 (show jw_cd cd_268 179 = some (.aload_n 0) by decide +kernel) rfl ?_
        refine jr_1 jm_268 (show jw_cd cd_268 180 = some (.aload_n 0) by decide +kernel) rfl ?_
        refine jr_1 jm_268 (show jw_cd cd_268 181 = some (.getfield 29) by decide +kernel) (mg_a hl (a := 22) (show jw_fld 34 29 16 = some 8 by decide +kernel) (by decide) (by decide)) ?_
        refine jr_1 jm_268 (show jw_cd cd_268 184 = some (.iload 8) by decide +kernel) rfl ?_
        refine jr_1 jm_268 (show jw_cd cd_268 186 = some (.iaload) by decide +kernel) (ma_i hl (i := x) (e := y) 8 (by omega) (by show _ < ((1740 : Nat) : Int); omega) e8b (by decide) (by decide) (by decide)) ?_
        refine jr_1 jm_268 (show jw_cd cd_268 187 = some (.iload 5) by decide +kernel) rfl ?_
        refine jr_c jm_268 (show jw_cd cd_268 189 = some (.invokevirtual 280) by decide +kernel) (mc_v hl (n := 2) (m2 := 261) (bs := [.int (Int32.ofInt (y)), .int (Int32.ofInt (k))]) (r := []) (show jw_find jw_cvT 34 280 = some (2, [(16, 261)]) by decide +kernel) (by decide) rfl rfl rfl) jm_261 ⟨Nat.le_of_ble_eq_true rfl, by decide⟩ (jn_enter hl ⟨by omega, by omega⟩) ?_
        refine jr_1 jm_268 (show jw_cd cd_268 192 = some (.aload_n 0) by decide +kernel) rfl ?_
        refine jr_1 jm_268 (show jw_cd cd_268 193 = some (.getfield 35) by decide +kernel) (mg_a hl (a := 24) (show jw_fld 34 35 16 = some 10 by decide +kernel) (by decide) (by decide)) ?_
        refine jr_1 jm_268 (show jw_cd cd_268 196 = some (.iload 8) by decide +kernel) rfl ?_
        refine jr_1 jm_268 (show jw_cd cd_268 198 = some (.iaload) by decide +kernel) (ma_i hl (i := x) (e := σ 10 x) 10 (by omega) (by show _ < ((1740 : Nat) : Int); omega) e10c (by decide) (by decide) (by decide)) ?_
        refine jr_1 jm_268 (F2 := (201, [some (.ref 15), some (.int (Int32.ofInt (e.1))), some (.int (Int32.ofInt (s))), some (.int (Int32.ofInt (fi))), some (.int (Int32.ofInt (bh))), some (.int (Int32.ofInt (k))), some (.int (Int32.ofInt (v))), some (.int (Int32.ofInt (1))), some (.int (Int32.ofInt (σ 10 x)))], [], ml_mk h (mEnter τ1 y k))) (show jw_cd cd_268 199 = some (.istore 8) by decide +kernel) rfl ?_
        refine jr_1 jm_268 (show jw_cd cd_268 201 = some (.goto (-48)) by decide +kernel) (ju_go (t := 153) (by decide)) ?_
        exact y1 res kk
      · rw [if_neg hh] at r1
        rw [selI_n he hh] at hr ⊢
        obtain ⟨τ, y1, y2, y3, y4⟩ := jn_pj_in (β := β) (d := d) (s := s) (fi := fi) (bh := bh) (k := k) (v := v) hl hA hB hn0 hN hn1 n (σ 10 x) p τ1 (prR_pj f1 hP) (mF_fr f1.1 (pjF_10 f1) hAN h6) hw2 (by omega) f11 f36 hp hr
        refine ⟨τ, fun res kk => ?_, pjF_trans f1 y2 (Int.le_refl p) (Int.le_refl p), y3, y4⟩
        refine jr_1 jm_268 (show jw_cd cd_268 153 = some (.iload 8) by decide +kernel) rfl ?_
        refine jr_1 jm_268 (show jw_cd cd_268 155 = some (.iconst (-1)) by decide +kernel) rfl ?_
        refine jr_1 jm_268 (show jw_cd cd_268 156 = some (.if_icmp .eq 48) by decide +kernel) (mb_f (q := .eq) (a := x) (b := -1) (by show ¬ (x = -1); omega) ⟨by omega, by omega⟩ ⟨by omega, by omega⟩ (by decide)) ?_
        refine jr_1 jm_268 (show jw_cd cd_268 159 = some (.iload_n 1) by decide +kernel) rfl ?_
        refine jr_1 jm_268 (show jw_cd cd_268 160 = some (.iconst 4) by decide +kernel) rfl ?_
        refine jr_1 jm_268 (show jw_cd cd_268 161 = some (.if_icmp .ne 18) by decide +kernel) (mb_f (q := .ne) (a := e.1) (b := 4) (by show ¬ (¬ (e.1 = 4)); omega) ⟨by omega, by omega⟩ ⟨by omega, by omega⟩ (by decide)) ?_
        refine jr_1 jm_268 (show jw_cd cd_268 164 = some (.aload_n 0) by decide +kernel) rfl ?_
        refine jr_1 jm_268 (show jw_cd cd_268 165 = some (.iload_n 2) by decide +kernel) rfl ?_
        refine jr_1 jm_268 (show jw_cd cd_268 166 = some (.aload_n 0) by decide +kernel) rfl ?_
        refine jr_1 jm_268 (show jw_cd cd_268 167 = some (.getfield 29) by decide +kernel) (mg_a hl (a := 22) (show jw_fld 34 29 16 = some 8 by decide +kernel) (by decide) (by decide)) ?_
        refine jr_1 jm_268 (show jw_cd cd_268 170 = some (.iload 8) by decide +kernel) rfl ?_
        refine jr_1 jm_268 (show jw_cd cd_268 172 = some (.iaload) by decide +kernel) (ma_i hl (i := x) (e := y) 8 (by omega) (by show _ < ((1740 : Nat) : Int); omega) e8 (by decide) (by decide) (by decide)) ?_
        refine jr_c jm_268 (show jw_cd cd_268 173 = some (.invokevirtual 290) by decide +kernel) (mc_v hl (n := 2) (m2 := 270) (bs := [.int (Int32.ofInt (s)), .int (Int32.ofInt (y))]) (r := []) (show jw_find jw_cvT 34 290 = some (2, [(16, 270)]) by decide +kernel) (by decide) rfl rfl rfl) jm_270 ⟨Nat.le_of_ble_eq_true rfl, by decide⟩ r1 ?_
        refine jr_1 jm_268 (show jw_cd cd_268 176 = some (.ifCond .eq 16) by decide +kernel) (mz_t (q := .eq) (a := 0) (t := 192) (by show 0 = 0; omega) ⟨by omega, by omega⟩ (by decide) (by decide)) ?_
        refine jr_1 jm_268 (show jw_cd cd_268 192 = some (.aload_n 0) by decide +kernel) rfl ?_
        refine jr_1 jm_268 (show jw_cd cd_268 193 = some (.getfield 35) by decide +kernel) (mg_a hl (a := 24) (show jw_fld 34 35 16 = some 10 by decide +kernel) (by decide) (by decide)) ?_
        refine jr_1 jm_268 (show jw_cd cd_268 196 = some (.iload 8) by decide +kernel) rfl ?_
        refine jr_1 jm_268 (show jw_cd cd_268 198 = some (.iaload) by decide +kernel) (ma_i hl (i := x) (e := σ 10 x) 10 (by omega) (by show _ < ((1740 : Nat) : Int); omega) e10b (by decide) (by decide) (by decide)) ?_
        refine jr_1 jm_268 (F2 := (201, [some (.ref 15), some (.int (Int32.ofInt (e.1))), some (.int (Int32.ofInt (s))), some (.int (Int32.ofInt (fi))), some (.int (Int32.ofInt (bh))), some (.int (Int32.ofInt (k))), some (.int (Int32.ofInt (v))), some (.int (Int32.ofInt (1))), some (.int (Int32.ofInt (σ 10 x)))], [], ml_mk h τ1)) (show jw_cd cd_268 199 = some (.istore 8) by decide +kernel) rfl ?_
        refine jr_1 jm_268 (show jw_cd cd_268 201 = some (.goto (-48)) by decide +kernel) (ju_go (t := 153) (by decide)) ?_
        exact y1 res kk
    · rw [selI_y (fun z => absurd z he)] at hr ⊢
      have hll : (((i, c) :: selI e n).length : Int) = (selI e n).length + 1 := by simp
      obtain ⟨z1, z2, z3, z4⟩ := en_1 (σ := σ) (v := y) (w := k) e36
      have f2 := pjF_en N z1 (Int.le_refl p)
      have e10c : mEnter σ y k 10 x = σ 10 x := by rw [z1.2 10 (by decide)]
      obtain ⟨τ, y1, y2, y3, y4⟩ := jn_pj_in (β := β) (d := d) (s := s) (fi := fi) (bh := bh) (k := k) (v := v) hl hA hB hn0 hN hn1 n (σ 10 x) (p + 1) (mEnter σ y k) (prR_pj f2 hP) (mF_fr f2.1 (pjF_10 f2) hAN h6) hw2 (by omega) (by rw [f2.2.2.2.2]; exact e11) z2 (by omega) (by omega)
      refine ⟨τ, fun res kk => ?_, pjF_trans f2 y2 (by omega) (by omega), by rw [y3, hll]; omega, ⟨⟨?_, ?_⟩, y4⟩⟩
      rotate_left
      · rw [y2.2.1 38 p (by decide) (by decide) (by omega), z4]
      · rw [y2.2.1 37 p (by decide) (by decide) (by omega), z3]
        exact mO_pj y2 hAN (mO_pj f2 hAN hV)
      refine jr_1 jm_268 (show jw_cd cd_268 153 = some (.iload 8) by decide +kernel) rfl ?_
      refine jr_1 jm_268 (show jw_cd cd_268 155 = some (.iconst (-1)) by decide +kernel) rfl ?_
      refine jr_1 jm_268 (show jw_cd cd_268 156 = some (.if_icmp .eq 48) by decide +kernel) (mb_f (q := .eq) (a := x) (b := -1) (by show ¬ (x = -1); omega) ⟨by omega, by omega⟩ ⟨by omega, by omega⟩ (by decide)) ?_
      refine jr_1 jm_268 (show jw_cd cd_268 159 = some (.iload_n 1) by decide +kernel) rfl ?_
      refine jr_1 jm_268 (show jw_cd cd_268 160 = some (.iconst 4) by decide +kernel) rfl ?_
      refine jr_1 jm_268 (show jw_cd cd_268 161 = some (.if_icmp .ne 18) by decide +kernel) (mb_t (q := .ne) (a := e.1) (b := 4) (t := 179) (by show ¬ (e.1 = 4); omega) ⟨by omega, by omega⟩ ⟨by omega, by omega⟩ (by decide) (by decide)) ?_
      refine jr_1 jm_268 (show jw_cd cd_268 179 = some (.aload_n 0) by decide +kernel) rfl ?_
      refine jr_1 jm_268 (show jw_cd cd_268 180 = some (.aload_n 0) by decide +kernel) rfl ?_
      refine jr_1 jm_268 (show jw_cd cd_268 181 = some (.getfield 29) by decide +kernel) (mg_a hl (a := 22) (show jw_fld 34 29 16 = some 8 by decide +kernel) (by decide) (by decide)) ?_
      refine jr_1 jm_268 (show jw_cd cd_268 184 = some (.iload 8) by decide +kernel) rfl ?_
      refine jr_1 jm_268 (show jw_cd cd_268 186 = some (.iaload) by decide +kernel) (ma_i hl (i := x) (e := y) 8 (by omega) (by show _ < ((1740 : Nat) : Int); omega) e8 (by decide) (by decide) (by decide)) ?_
      refine jr_1 jm_268 (show jw_cd cd_268 187 = some (.iload 5) by decide +kernel) rfl ?_
      refine jr_c jm_268 (show jw_cd cd_268 189 = some (.invokevirtual 280) by decide +kernel) (mc_v hl (n := 2) (m2 := 261) (bs := [.int (Int32.ofInt (y)), .int (Int32.ofInt (k))]) (r := []) (show jw_find jw_cvT 34 280 = some (2, [(16, 261)]) by decide +kernel) (by decide) rfl rfl rfl) jm_261 ⟨Nat.le_of_ble_eq_true rfl, by decide⟩ (jn_enter hl ⟨by omega, by omega⟩) ?_
      refine jr_1 jm_268 (show jw_cd cd_268 192 = some (.aload_n 0) by decide +kernel) rfl ?_
      refine jr_1 jm_268 (show jw_cd cd_268 193 = some (.getfield 35) by decide +kernel) (mg_a hl (a := 24) (show jw_fld 34 35 16 = some 10 by decide +kernel) (by decide) (by decide)) ?_
      refine jr_1 jm_268 (show jw_cd cd_268 196 = some (.iload 8) by decide +kernel) rfl ?_
      refine jr_1 jm_268 (show jw_cd cd_268 198 = some (.iaload) by decide +kernel) (ma_i hl (i := x) (e := σ 10 x) 10 (by omega) (by show _ < ((1740 : Nat) : Int); omega) e10c (by decide) (by decide) (by decide)) ?_
      refine jr_1 jm_268 (F2 := (201, [some (.ref 15), some (.int (Int32.ofInt (e.1))), some (.int (Int32.ofInt (s))), some (.int (Int32.ofInt (fi))), some (.int (Int32.ofInt (bh))), some (.int (Int32.ofInt (k))), some (.int (Int32.ofInt (v))), some (.int (Int32.ofInt (1))), some (.int (Int32.ofInt (σ 10 x)))], [], ml_mk h (mEnter σ y k))) (show jw_cd cd_268 199 = some (.istore 8) by decide +kernel) rfl ?_
      refine jr_1 jm_268 (show jw_cd cd_268 201 = some (.goto (-48)) by decide +kernel) (ju_go (t := 153) (by decide)) ?_
      exact y1 res kk
