/-! ===== holds, as a whole (printed by program: gen48.py) ===== -/
theorem pthR_eq {σ τ : mS} (hq : τ 25 = σ 25) {dd : Int} : ∀ (l : List (List Int)) (t : Int), pthR σ dd t l → pthR τ dd t l
  | [], _, _ => trivial
  | s :: l, t, h => ⟨⟨by rw [hq]; exact h.1.1, h.1.2⟩, pthR_eq hq l (t + 1) h.2⟩
theorem fget_ct {s : List Int} : ∀ (F : FT) (j : tI) (E : FT), fget s F = some (j, E) → fct E + 1 ≤ fct F
  | .leaf, j, E, h => by cases h
  | .inner _ i _ c n, j, E, h => by
    show fct E + 1 ≤ 1 + fct c + fct n
    have h : (if i.2.2.2 = s then some (i, c) else fget s n) = some (j, E) := h
    by_cases hs : i.2.2.2 = s
    · rw [if_pos hs] at h
      cases h
      omega
    · rw [if_neg hs] at h
      have := fget_ct n j E h
      omega
theorem vget_ct {s : List Int} {i : tI} {F : FT} {j : tI} {E : FT} (h : vget s i F = some (j, E)) : fct E + 1 ≤ fct F := by
  unfold vget at h
  by_cases h6 : i.1 = 6
  · rw [if_pos h6] at h
    exact fget_ct F j E h
  · rw [if_neg h6] at h
    cases h
theorem vpath_ct : ∀ (l : List (List Int)) (i : tI) (F : FT) (j : tI) (E : FT), vpath l (some (i, F)) = some (j, E) → fct E ≤ fct F
  | [], i, F, j, E, h => by
    cases h
    exact Nat.le_refl _
  | s :: l, i, F, j, E, h => by
    have h : vpath l (vget s i F) = some (j, E) := h
    cases hv : vget s i F with
    | none =>
      rw [hv, vpath_none] at h
      cases h
    | some y =>
      obtain ⟨y, Y⟩ := y
      rw [hv] at h
      have h1 := vget_ct hv
      have h2 := vpath_ct l y Y j E h
      omega
theorem sval_ct {s : sD} {i : tI} {F : FT} {j : tI} {E : FT} (h : sval s (i, F) = some (j, E)) : fct E ≤ fct F := by
  unfold sval at h
  by_cases h2 : s.1 = 2
  · rw [if_pos h2] at h
    cases h
    exact Nat.zero_le _
  · rw [if_neg h2] at h
    by_cases h3 : s.1 = 3
    · rw [if_pos h3] at h
      cases h
      exact Nat.zero_le _
    · rw [if_neg h3] at h
      exact vpath_ct _ _ _ _ _ h
theorem mV_eq {σ τ : mS} {A B : Int → Prop} {w : Int} {i : tI} {c : FT} (hq : ∀ f, 3 ≤ f → f ≤ 10 → τ f = σ f) (h : mV σ A B w i c) : mV τ A B w i c := by
  obtain ⟨a1, ⟨n1, n2, n3, n4⟩, hF⟩ := h
  refine ⟨a1, ⟨by rw [hq 3 (by decide) (by decide)]; exact n1, by rw [hq 4 (by decide) (by decide)]; exact n2, by rw [hq 5 (by decide) (by decide)]; exact n3, by rw [hq 7 (by decide) (by decide)]; exact n4⟩, ?_⟩
  rw [hq 6 (by decide) (by decide)]
  exact mF_frame (fun v _ => ⟨by rw [hq 3 (by decide) (by decide)], by rw [hq 4 (by decide) (by decide)], by rw [hq 5 (by decide) (by decide)], by rw [hq 6 (by decide) (by decide)], by rw [hq 7 (by decide) (by decide)]⟩) (fun x _ => ⟨by rw [hq 8 (by decide) (by decide)], by rw [hq 9 (by decide) (by decide)], by rw [hq 10 (by decide) (by decide)]⟩) c _ hF
theorem mO_eq {σ τ : mS} {A B : Int → Prop} {w : Int} {x : Option (tI × FT)} (hq : ∀ f, 3 ≤ f → f ≤ 10 → τ f = σ f) (h : mO σ A B w x) : mO τ A B w x := by
  cases x with
  | none => exact h
  | some y => exact mV_eq hq h
theorem nmO_r {x : Option (tI × FT)} (h : vokO x) : mr (nmO x) := by
  cases x with
  | none => exact mr0
  | some y =>
    obtain ⟨i, F⟩ := y
    exact (h i F rfl).1.2.2.1
/-- what holds leaves alone -/
def hoF (σ τ : mS) (N : Int) : Prop := (∀ f v, 3 ≤ f → f ≤ 7 → v < N → τ f v = σ f v) ∧ (∀ f, f ∉ [3, 4, 5, 6, 7, 11, 43, 44] → τ f = σ f) ∧ ∀ v, τ 11 v = σ 11 v
theorem cmpI_S {g : Int} {x y : Option (tI × FT)} (hg : 1 ≤ g ∧ g ≤ 6) : (¬ (kdO x = 3 ∧ kdO y = 3) → cmpI g (if eqS x y = true then 1 else 0) 0 0 0 = if cmpS g x y = true then 1 else 0) ∧ (kdO x = 3 ∧ kdO y = 3 → cmpI g (if eqS x y = true then 1 else 0) 1 (nmO x) (nmO y) = if cmpS g x y = true then 1 else 0) := by
  unfold cmpI cmpS
  by_cases h1 : g = 1
  · simp only [if_pos h1]
    exact ⟨fun _ => trivial, fun _ => trivial⟩
  · simp only [if_neg h1]
    by_cases h2 : g = 2
    · simp only [if_pos h2]
      cases eqS x y
      · exact ⟨fun _ => rfl, fun _ => rfl⟩
      · exact ⟨fun _ => rfl, fun _ => rfl⟩
    · simp only [if_neg h2]
      refine ⟨fun hk => ?_, fun hk => ?_⟩
      · rw [if_pos trivial, if_neg (fun z => hk ⟨(of_decide_eq_true z).1, (of_decide_eq_true z).2.1⟩)]
      · rw [if_neg (by decide)]
        obtain ⟨hk1, hk2⟩ := hk
        by_cases h3 : g = 3
        · simp only [if_pos h3, hk1, hk2, true_and, decide_eq_true_eq]
        · simp only [if_neg h3]
          by_cases h4 : g = 4
          · simp only [if_pos h4, hk1, hk2, true_and, decide_eq_true_eq]
          · simp only [if_neg h4]
            by_cases h5 : g = 5
            · simp only [if_pos h5, hk1, hk2, true_and, decide_eq_true_eq]
            · simp only [if_neg h5, hk1, hk2, true_and, decide_eq_true_eq]
theorem jn_holds {β : Bool} {d : Nat} {h : jx_H} {σ : mS} (hl : 49 ≤ h.length) {A B : Int → Prop} {s e nn N g : Int} {l r : sD} (hs : 0 ≤ s ∧ s < 144) (hA : ∀ v, A v → 0 ≤ v ∧ v < N) (hB : mIx B) (hsl : sdR σ (2 * s) l) (hsr : (r.1 = 0 ∧ σ 23 (2 * s + 1) = 0) ∨ (sdR σ (2 * s + 1) r ∧ σ 22 s = g ∧ 1 ≤ g ∧ g ≤ 6)) (e11 : σ 11 4 = nn) (hn0 : 0 ≤ nn) (hN : N = 170 * 4 + nn) (hn1 : N + 1 < 1740) {i : tI} {F : FT} (hV : mV σ A B e i F) (hi : iok i) (hF : fwf F) (hc : fct F ≤ 390) : ∃ τ : mS, jx_r (jz β) jw_M (d + 2) 270 (0, [some (.ref 15), some (.int (Int32.ofInt (s))), some (.int (Int32.ofInt (e))), none, none, none, none, none, none, none, none, none], [], ml_mk h σ) (ml_mk h (τ), .inl (some (.int (Int32.ofInt (if holS g l r (i, F) = true then 1 else 0))))) ∧ hoF σ τ N := by
  obtain ⟨s0, s1⟩ := hs
  obtain ⟨τ1, a, n1, r1, r2, r3, r4, r5, r6, r7⟩ := jn_sideOf (β := β) (d := d) hl (dd := 2 * s) ⟨by omega, by omega⟩ hA hB hsl e11 hn0 hN (by omega) hV hi hF
  obtain ⟨A1, hA1e⟩ : ∃ A1 : Int → Prop, A1 = fun v => A v ∨ In N (170 * 4 + n1) v := ⟨_, rfl⟩
  rw [← hA1e] at r2
  have hA1 : ∀ v, A1 v → 0 ≤ v ∧ v < 170 * 4 + n1 := fun v hv => by
    rw [hA1e] at hv
    rcases hv with hv | ⟨h1, h2⟩
    · have := hA v hv
      exact ⟨this.1, by omega⟩
    · exact ⟨by omega, h2⟩
  have hAA : ∀ v, A v → A1 v := fun v hv => by rw [hA1e]; exact Or.inl hv
  have hA1x : mIx A1 := fun v hv => ⟨(hA1 v hv).1, by have := (hA1 v hv).2; omega⟩
  have hca : ∀ j E, sval l (i, F) = some (j, E) → fct E ≤ 390 := fun j E hj => by
    have := sval_ct hj
    omega
  have q23 : τ1 23 = σ 23 := r7.2.1 23 (by decide)
  have q22 : τ1 22 = σ 22 := r7.2.1 22 (by decide)
  have hend : ∀ τ : mS, nwF σ τ N → ∀ f v, 3 ≤ f → f ≤ 7 → v < N → (su τ 11 4 nn) f v = σ f v := fun τ ht f v f1 f2 hv => by
    rw [su_nf (by omega)]
    exact ht.1 f v f1 f2 hv
  have hend2 : ∀ τ : mS, (∀ v, ¬ v = 4 → τ 11 v = σ 11 v) → ∀ v, (su τ 11 4 nn) 11 v = σ 11 v := fun τ ht v => by
    by_cases hv : v = 4
    · rw [hv, su_eq, e11]
    · rw [su_ni hv]
      exact ht v hv
  rcases hsr with ⟨hr0, e23⟩ | ⟨hsr, e22, hg⟩
  · have hh : holS g l r (i, F) = truS (sval l (i, F)) := by unfold holS; rw [if_pos hr0]
    have e23 : τ1 23 (2 * s + 1) = r.1 := by rw [q23, hr0]; exact e23
    refine ⟨su τ1 11 4 nn, ?_, hend τ1 r7, fun f hf => ?_, hend2 τ1 r7.2.2⟩
    rotate_left
    · simp only [List.mem_cons, List.mem_nil_iff, or_false, not_or] at hf
      rw [su_row (by omega)]
      exact r7.2.1 f (by simp; omega)
    rw [hh]
    refine jr_1 jm_270 (show jw_cd cd_270 0 = some (.aload_n 0) by decide +kernel) rfl ?_
    refine jr_1 jm_270 (show jw_cd cd_270 1 = some (.getfield 38) by decide +kernel) (mg_a hl (a := 25) (show jw_fld 34 38 16 = some 11 by decide +kernel) (by decide) (by decide)) ?_
    refine jr_1 jm_270 (show jw_cd cd_270 4 = some (.iconst 4) by decide +kernel) rfl ?_
    refine jr_1 jm_270 (show jw_cd cd_270 5 = some (.iaload) by decide +kernel) (ma_i hl (i := 4) (e := nn) 11 (by omega) (by show _ < ((5 : Nat) : Int); omega) e11 (by decide) (by decide) (by decide)) ?_
    refine jr_1 jm_270 (F2 := (7, [some (.ref 15), some (.int (Int32.ofInt (s))), some (.int (Int32.ofInt (e))), some (.int (Int32.ofInt (nn))), none, none, none, none, none, none, none, none], [], ml_mk h σ)) (show jw_cd cd_270 6 = some (.istore_n 3) by decide +kernel) rfl ?_
    refine jr_1 jm_270 (show jw_cd cd_270 7 = some (.aload_n 0) by decide +kernel) rfl ?_
    refine jr_1 jm_270 (show jw_cd cd_270 8 = some (.iconst 2) by decide +kernel) rfl ?_
    refine jr_1 jm_270 (show jw_cd cd_270 9 = some (.iload_n 1) by decide +kernel) rfl ?_
    refine jr_1 jm_270 (show jw_cd cd_270 10 = some (.imul) by decide +kernel) (mt_mul (c := 2 * s) rfl) ?_
    refine jr_1 jm_270 (show jw_cd cd_270 11 = some (.iload_n 2) by decide +kernel) rfl ?_
    refine jr_c jm_270 (show jw_cd cd_270 12 = some (.invokevirtual 267) by decide +kernel) (mc_v hl (n := 2) (m2 := 271) (bs := [.int (Int32.ofInt (2 * s)), .int (Int32.ofInt (e))]) (r := []) (show jw_find jw_cvT 34 267 = some (2, [(16, 271)]) by decide +kernel) (by decide) rfl rfl rfl) jm_271 ⟨Nat.le_of_ble_eq_true rfl, by decide⟩ r1 ?_
    refine jr_1 jm_270 (F2 := (17, [some (.ref 15), some (.int (Int32.ofInt (s))), some (.int (Int32.ofInt (e))), some (.int (Int32.ofInt (nn))), some (.int (Int32.ofInt (a))), none, none, none, none, none, none, none], [], ml_mk h τ1)) (show jw_cd cd_270 15 = some (.istore 4) by decide +kernel) rfl ?_
    refine jr_1 jm_270 (show jw_cd cd_270 17 = some (.aload_n 0) by decide +kernel) rfl ?_
    refine jr_1 jm_270 (show jw_cd cd_270 18 = some (.getfield 65) by decide +kernel) (mg_a hl (a := 34) (show jw_fld 34 65 16 = some 23 by decide +kernel) (by decide) (by decide)) ?_
    refine jr_1 jm_270 (show jw_cd cd_270 21 = some (.iconst 2) by decide +kernel) rfl ?_
    refine jr_1 jm_270 (show jw_cd cd_270 22 = some (.iload_n 1) by decide +kernel) rfl ?_
    refine jr_1 jm_270 (show jw_cd cd_270 23 = some (.imul) by decide +kernel) (mt_mul (c := 2 * s) rfl) ?_
    refine jr_1 jm_270 (show jw_cd cd_270 24 = some (.iconst 1) by decide +kernel) rfl ?_
    refine jr_1 jm_270 (show jw_cd cd_270 25 = some (.iadd) by decide +kernel) (mt_add (c := 2 * s + 1) rfl) ?_
    refine jr_1 jm_270 (show jw_cd cd_270 26 = some (.iaload) by decide +kernel) (ma_i hl (i := 2 * s + 1) (e := r.1) 23 (by omega) (by show _ < ((288 : Nat) : Int); omega) e23 (by decide) (by decide) (by decide)) ?_
    refine jr_1 jm_270 (show jw_cd cd_270 27 = some (.ifCond .ne 80) by decide +kernel) (mz_f (q := .ne) (a := r.1) (by show ¬ (¬ (r.1 = 0)); omega) ⟨by omega, by omega⟩ (by decide)) ?_
    refine jn_ho_tru (β := β) (d := d) hl hA1x hB r2 r3 (fun j E hj => by have := hca j E hj; omega) _ ?_
    by_cases htr : truS (sval l (i, F)) = true
    · rw [if_pos htr]
      refine jr_1 jm_270 (show jw_cd cd_270 361 = some (.aload_n 0) by decide +kernel) rfl ?_
      refine jr_1 jm_270 (show jw_cd cd_270 362 = some (.getfield 38) by decide +kernel) (mg_a hl (a := 25) (show jw_fld 34 38 16 = some 11 by decide +kernel) (by decide) (by decide)) ?_
      refine jr_1 jm_270 (show jw_cd cd_270 365 = some (.iconst 4) by decide +kernel) rfl ?_
      refine jr_1 jm_270 (show jw_cd cd_270 366 = some (.iload_n 3) by decide +kernel) rfl ?_
      refine jr_1 jm_270 (show jw_cd cd_270 367 = some (.iastore) by decide +kernel) (ms_i hl (i := 4) (x := nn) 11 (by omega) (by show _ < ((5 : Nat) : Int); omega) (by decide) (by decide) (by decide)) ?_
      refine jr_1 jm_270 (show jw_cd cd_270 368 = some (.iload 5) by decide +kernel) rfl ?_
      exact jr_v jm_270 (show jw_cd cd_270 370 = some (.ireturn) by decide +kernel) rfl
    · rw [if_neg htr]
      refine jr_1 jm_270 (show jw_cd cd_270 361 = some (.aload_n 0) by decide +kernel) rfl ?_
      refine jr_1 jm_270 (show jw_cd cd_270 362 = some (.getfield 38) by decide +kernel) (mg_a hl (a := 25) (show jw_fld 34 38 16 = some 11 by decide +kernel) (by decide) (by decide)) ?_
      refine jr_1 jm_270 (show jw_cd cd_270 365 = some (.iconst 4) by decide +kernel) rfl ?_
      refine jr_1 jm_270 (show jw_cd cd_270 366 = some (.iload_n 3) by decide +kernel) rfl ?_
      refine jr_1 jm_270 (show jw_cd cd_270 367 = some (.iastore) by decide +kernel) (ms_i hl (i := 4) (x := nn) 11 (by omega) (by show _ < ((5 : Nat) : Int); omega) (by decide) (by decide) (by decide)) ?_
      refine jr_1 jm_270 (show jw_cd cd_270 368 = some (.iload 5) by decide +kernel) rfl ?_
      exact jr_v jm_270 (show jw_cd cd_270 370 = some (.ireturn) by decide +kernel) rfl
  · have hrr : 1 ≤ r.1 := hsr.2.1.1
    have hrr3 : r.1 ≤ 3 := hsr.2.1.2
    have hh : holS g l r (i, F) = cmpS g (sval l (i, F)) (sval r (i, F)) := by unfold holS; rw [if_neg (by omega)]
    have e23 : τ1 23 (2 * s + 1) = r.1 := by rw [q23]; exact hsr.1
    have hsr1 : sdR τ1 (2 * s + 1) r := by
      unfold sdR at hsr ⊢
      rw [r7.2.1 23 (by decide), r7.2.1 24 (by decide), r7.2.1 26 (by decide), r7.2.1 27 (by decide)]
      refine ⟨hsr.1, hsr.2.1, fun z => ⟨(hsr.2.2.1 z).1, (hsr.2.2.1 z).2.1, ?_⟩, hsr.2.2.2⟩
      exact pthR_eq (r7.2.1 25 (by decide)) _ _ (hsr.2.2.1 z).2.2
    have hV1 : mV τ1 A1 B e i F := mV_mono hAA (fun _ h => h) (mV_nw r7 (fun v hv => (hA v hv).2) hV)
    obtain ⟨τ2, b, n2, z1, z2, z3, z4, z5, z6, z7⟩ := jn_sideOf (β := β) (d := d) hl (dd := 2 * s + 1) ⟨by omega, by omega⟩ hA1 hB hsr1 r4 (by omega) rfl (by omega) hV1 hi hF
    obtain ⟨A2, hA2e⟩ : ∃ A2 : Int → Prop, A2 = fun v => A1 v ∨ In (170 * 4 + n1) (170 * 4 + n2) v := ⟨_, rfl⟩
    rw [← hA2e] at z2
    have hA2x : mIx A2 := fun v hv => by
      rw [hA2e] at hv
      rcases hv with hv | ⟨h1, h2⟩
      · exact hA1x v hv
      · exact ⟨by omega, by omega⟩
    have r2' : mO τ2 A2 B a (sval l (i, F)) := mO_mono (fun v hv => by rw [hA2e]; exact Or.inl hv) (fun _ h => h) (mO_nw z7 (fun v hv => (hA1 v hv).2) r2)
    have hcb : ∀ j E, sval r (i, F) = some (j, E) → fct E ≤ 390 := fun j E hj => by
      have := sval_ct hj
      omega
    obtain ⟨τ3, y1, y2⟩ := jn_ho_eq (β := β) (d := d) (s := s) (e := e) (nn := nn) (c5 := none) hl hA2x hB r2' r3 z2 z3 hca hcb
    have y3 : ∀ f, 3 ≤ f → f ≤ 10 → τ3 f = τ2 f := fun f f1 f2 => y2 f (by simp; omega)
    have hw := nwF_trans r7 z7 (by omega)
    have e22' : τ3 22 s = g := by rw [y2 22 (by decide), z7.2.1 22 (by decide), q22]; exact e22
    refine ⟨su τ3 11 4 nn, ?_, fun f v f1 f2 hv => ?_, fun f hf => ?_, hend2 τ3 (fun v hv => by rw [y2 11 (by decide)]; exact hw.2.2 v hv)⟩
    rotate_left
    · rw [su_nf (by omega), y3 f f1 (by omega)]
      exact hw.1 f v f1 f2 hv
    · simp only [List.mem_cons, List.mem_nil_iff, or_false, not_or] at hf
      rw [su_row (by omega), y2 f (by simp; omega)]
      exact hw.2.1 f (by simp; omega)
    rw [hh]
    refine jr_1 jm_270 (show jw_cd cd_270 0 = some (.aload_n 0) by decide +kernel) rfl ?_
    refine jr_1 jm_270 (show jw_cd cd_270 1 = some (.getfield 38) by decide +kernel) (mg_a hl (a := 25) (show jw_fld 34 38 16 = some 11 by decide +kernel) (by decide) (by decide)) ?_
    refine jr_1 jm_270 (show jw_cd cd_270 4 = some (.iconst 4) by decide +kernel) rfl ?_
    refine jr_1 jm_270 (show jw_cd cd_270 5 = some (.iaload) by decide +kernel) (ma_i hl (i := 4) (e := nn) 11 (by omega) (by show _ < ((5 : Nat) : Int); omega) e11 (by decide) (by decide) (by decide)) ?_
    refine jr_1 jm_270 (F2 := (7, [some (.ref 15), some (.int (Int32.ofInt (s))), some (.int (Int32.ofInt (e))), some (.int (Int32.ofInt (nn))), none, none, none, none, none, none, none, none], [], ml_mk h σ)) (show jw_cd cd_270 6 = some (.istore_n 3) by decide +kernel) rfl ?_
    refine jr_1 jm_270 (show jw_cd cd_270 7 = some (.aload_n 0) by decide +kernel) rfl ?_
    refine jr_1 jm_270 (show jw_cd cd_270 8 = some (.iconst 2) by decide +kernel) rfl ?_
    refine jr_1 jm_270 (show jw_cd cd_270 9 = some (.iload_n 1) by decide +kernel) rfl ?_
    refine jr_1 jm_270 (show jw_cd cd_270 10 = some (.imul) by decide +kernel) (mt_mul (c := 2 * s) rfl) ?_
    refine jr_1 jm_270 (show jw_cd cd_270 11 = some (.iload_n 2) by decide +kernel) rfl ?_
    refine jr_c jm_270 (show jw_cd cd_270 12 = some (.invokevirtual 267) by decide +kernel) (mc_v hl (n := 2) (m2 := 271) (bs := [.int (Int32.ofInt (2 * s)), .int (Int32.ofInt (e))]) (r := []) (show jw_find jw_cvT 34 267 = some (2, [(16, 271)]) by decide +kernel) (by decide) rfl rfl rfl) jm_271 ⟨Nat.le_of_ble_eq_true rfl, by decide⟩ r1 ?_
    refine jr_1 jm_270 (F2 := (17, [some (.ref 15), some (.int (Int32.ofInt (s))), some (.int (Int32.ofInt (e))), some (.int (Int32.ofInt (nn))), some (.int (Int32.ofInt (a))), none, none, none, none, none, none, none], [], ml_mk h τ1)) (show jw_cd cd_270 15 = some (.istore 4) by decide +kernel) rfl ?_
    refine jr_1 jm_270 (show jw_cd cd_270 17 = some (.aload_n 0) by decide +kernel) rfl ?_
    refine jr_1 jm_270 (show jw_cd cd_270 18 = some (.getfield 65) by decide +kernel) (mg_a hl (a := 34) (show jw_fld 34 65 16 = some 23 by decide +kernel) (by decide) (by decide)) ?_
    refine jr_1 jm_270 (show jw_cd cd_270 21 = some (.iconst 2) by decide +kernel) rfl ?_
    refine jr_1 jm_270 (show jw_cd cd_270 22 = some (.iload_n 1) by decide +kernel) rfl ?_
    refine jr_1 jm_270 (show jw_cd cd_270 23 = some (.imul) by decide +kernel) (mt_mul (c := 2 * s) rfl) ?_
    refine jr_1 jm_270 (show jw_cd cd_270 24 = some (.iconst 1) by decide +kernel) rfl ?_
    refine jr_1 jm_270 (show jw_cd cd_270 25 = some (.iadd) by decide +kernel) (mt_add (c := 2 * s + 1) rfl) ?_
    refine jr_1 jm_270 (show jw_cd cd_270 26 = some (.iaload) by decide +kernel) (ma_i hl (i := 2 * s + 1) (e := r.1) 23 (by omega) (by show _ < ((288 : Nat) : Int); omega) e23 (by decide) (by decide) (by decide)) ?_
    refine jr_1 jm_270 (show jw_cd cd_270 27 = some (.ifCond .ne 80) by decide +kernel) (mz_t (q := .ne) (a := r.1) (t := 107) (by show ¬ (r.1 = 0); omega) ⟨by omega, by omega⟩ (by decide) (by decide)) ?_
    refine jr_1 jm_270 (show jw_cd cd_270 107 = some (.aload_n 0) by decide +kernel) rfl ?_
    refine jr_1 jm_270 (show jw_cd cd_270 108 = some (.iconst 2) by decide +kernel) rfl ?_
    refine jr_1 jm_270 (show jw_cd cd_270 109 = some (.iload_n 1) by decide +kernel) rfl ?_
    refine jr_1 jm_270 (show jw_cd cd_270 110 = some (.imul) by decide +kernel) (mt_mul (c := 2 * s) rfl) ?_
    refine jr_1 jm_270 (show jw_cd cd_270 111 = some (.iconst 1) by decide +kernel) rfl ?_
    refine jr_1 jm_270 (show jw_cd cd_270 112 = some (.iadd) by decide +kernel) (mt_add (c := 2 * s + 1) rfl) ?_
    refine jr_1 jm_270 (show jw_cd cd_270 113 = some (.iload_n 2) by decide +kernel) rfl ?_
    refine jr_c jm_270 (show jw_cd cd_270 114 = some (.invokevirtual 267) by decide +kernel) (mc_v hl (n := 2) (m2 := 271) (bs := [.int (Int32.ofInt (2 * s + 1)), .int (Int32.ofInt (e))]) (r := []) (show jw_find jw_cvT 34 267 = some (2, [(16, 271)]) by decide +kernel) (by decide) rfl rfl rfl) jm_271 ⟨Nat.le_of_ble_eq_true rfl, by decide⟩ z1 ?_
    refine jr_1 jm_270 (F2 := (119, [some (.ref 15), some (.int (Int32.ofInt (s))), some (.int (Int32.ofInt (e))), some (.int (Int32.ofInt (nn))), some (.int (Int32.ofInt (a))), none, some (.int (Int32.ofInt (b))), none, none, none, none, none], [], ml_mk h τ2)) (show jw_cd cd_270 117 = some (.istore 6) by decide +kernel) rfl ?_
    refine y1 _ ?_
    obtain ⟨w1, w2⟩ := jn_ho_b (β := β) (d := d) (s := s) (e := e) (nn := nn) (c5 := none) (q := if eqS (sval l (i, F)) (sval r (i, F)) = true then 1 else 0) hl hA2x hB (mO_eq y3 r2') r3 (mO_eq y3 z2) z3
    obtain ⟨q, hq⟩ : ∃ q : Int, q = if eqS (sval l (i, F)) (sval r (i, F)) = true then 1 else 0 := ⟨_, rfl⟩
    have hq01 : 0 ≤ q ∧ q ≤ 1 := by
      rw [hq]
      split
      · exact ⟨by decide, by decide⟩
      · exact ⟨by decide, by decide⟩
    obtain ⟨v5, hv5⟩ : ∃ v5 : Int, v5 = if cmpS g (sval l (i, F)) (sval r (i, F)) = true then 1 else 0 := ⟨_, rfl⟩
    have hv01 : v5 = 1 ∨ v5 = 0 := by
      rw [hv5]
      split
      · exact Or.inl rfl
      · exact Or.inr rfl
    have hci := cmpI_S (x := sval l (i, F)) (y := sval r (i, F)) hg
    rw [← hq] at w1 w2 hci ⊢
    rw [← hv5] at hci ⊢
    by_cases hk3 : kdO (sval l (i, F)) = 3 ∧ kdO (sval r (i, F)) = 3
    · refine w2 hk3 _ ?_
      refine jn_ho_s (β := β) (d := d) hl hA2x hB ⟨s0, s1⟩ e22' hg hq01 ⟨by decide, by decide⟩ (nmO_r r3) (nmO_r z3) _ ?_
      rw [hci.2 hk3]
      rcases hv01 with hv1 | hv1
      · rw [hv1]
        refine jr_1 jm_270 (show jw_cd cd_270 361 = some (.aload_n 0) by decide +kernel) rfl ?_
        refine jr_1 jm_270 (show jw_cd cd_270 362 = some (.getfield 38) by decide +kernel) (mg_a hl (a := 25) (show jw_fld 34 38 16 = some 11 by decide +kernel) (by decide) (by decide)) ?_
        refine jr_1 jm_270 (show jw_cd cd_270 365 = some (.iconst 4) by decide +kernel) rfl ?_
        refine jr_1 jm_270 (show jw_cd cd_270 366 = some (.iload_n 3) by decide +kernel) rfl ?_
        refine jr_1 jm_270 (show jw_cd cd_270 367 = some (.iastore) by decide +kernel) (ms_i hl (i := 4) (x := nn) 11 (by omega) (by show _ < ((5 : Nat) : Int); omega) (by decide) (by decide) (by decide)) ?_
        refine jr_1 jm_270 (show jw_cd cd_270 368 = some (.iload 5) by decide +kernel) rfl ?_
        exact jr_v jm_270 (show jw_cd cd_270 370 = some (.ireturn) by decide +kernel) rfl
      · rw [hv1]
        refine jr_1 jm_270 (show jw_cd cd_270 361 = some (.aload_n 0) by decide +kernel) rfl ?_
        refine jr_1 jm_270 (show jw_cd cd_270 362 = some (.getfield 38) by decide +kernel) (mg_a hl (a := 25) (show jw_fld 34 38 16 = some 11 by decide +kernel) (by decide) (by decide)) ?_
        refine jr_1 jm_270 (show jw_cd cd_270 365 = some (.iconst 4) by decide +kernel) rfl ?_
        refine jr_1 jm_270 (show jw_cd cd_270 366 = some (.iload_n 3) by decide +kernel) rfl ?_
        refine jr_1 jm_270 (show jw_cd cd_270 367 = some (.iastore) by decide +kernel) (ms_i hl (i := 4) (x := nn) 11 (by omega) (by show _ < ((5 : Nat) : Int); omega) (by decide) (by decide) (by decide)) ?_
        refine jr_1 jm_270 (show jw_cd cd_270 368 = some (.iload 5) by decide +kernel) rfl ?_
        exact jr_v jm_270 (show jw_cd cd_270 370 = some (.ireturn) by decide +kernel) rfl
    · refine w1 hk3 _ ?_
      refine jn_ho_s (β := β) (d := d) hl hA2x hB ⟨s0, s1⟩ e22' hg hq01 ⟨by decide, by decide⟩ mr0 mr0 _ ?_
      rw [hci.1 hk3]
      rcases hv01 with hv1 | hv1
      · rw [hv1]
        refine jr_1 jm_270 (show jw_cd cd_270 361 = some (.aload_n 0) by decide +kernel) rfl ?_
        refine jr_1 jm_270 (show jw_cd cd_270 362 = some (.getfield 38) by decide +kernel) (mg_a hl (a := 25) (show jw_fld 34 38 16 = some 11 by decide +kernel) (by decide) (by decide)) ?_
        refine jr_1 jm_270 (show jw_cd cd_270 365 = some (.iconst 4) by decide +kernel) rfl ?_
        refine jr_1 jm_270 (show jw_cd cd_270 366 = some (.iload_n 3) by decide +kernel) rfl ?_
        refine jr_1 jm_270 (show jw_cd cd_270 367 = some (.iastore) by decide +kernel) (ms_i hl (i := 4) (x := nn) 11 (by omega) (by show _ < ((5 : Nat) : Int); omega) (by decide) (by decide) (by decide)) ?_
        refine jr_1 jm_270 (show jw_cd cd_270 368 = some (.iload 5) by decide +kernel) rfl ?_
        exact jr_v jm_270 (show jw_cd cd_270 370 = some (.ireturn) by decide +kernel) rfl
      · rw [hv1]
        refine jr_1 jm_270 (show jw_cd cd_270 361 = some (.aload_n 0) by decide +kernel) rfl ?_
        refine jr_1 jm_270 (show jw_cd cd_270 362 = some (.getfield 38) by decide +kernel) (mg_a hl (a := 25) (show jw_fld 34 38 16 = some 11 by decide +kernel) (by decide) (by decide)) ?_
        refine jr_1 jm_270 (show jw_cd cd_270 365 = some (.iconst 4) by decide +kernel) rfl ?_
        refine jr_1 jm_270 (show jw_cd cd_270 366 = some (.iload_n 3) by decide +kernel) rfl ?_
        refine jr_1 jm_270 (show jw_cd cd_270 367 = some (.iastore) by decide +kernel) (ms_i hl (i := 4) (x := nn) 11 (by omega) (by show _ < ((5 : Nat) : Int); omega) (by decide) (by decide) (by decide)) ?_
        refine jr_1 jm_270 (show jw_cd cd_270 368 = some (.iload 5) by decide +kernel) rfl ?_
        exact jr_v jm_270 (show jw_cd cd_270 370 = some (.ireturn) by decide +kernel) rfl
