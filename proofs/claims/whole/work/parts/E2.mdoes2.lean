/-! ===== does, as a whole (printed by program: gen59.py) ===== -/
/-- what a stage leaves alone -/
def doF (σ τ : mS) : Prop := (∀ f v, 3 ≤ f → f ≤ 7 → v < 680 → τ f v = σ f v) ∧ (∀ f x, 8 ≤ f → f ≤ 10 → x < 680 → τ f x = σ f x) ∧ (∀ f, f ∉ [3, 4, 5, 6, 7, 8, 9, 10, 11, 12, 36, 37, 38, 39, 40, 41, 42, 43, 44] → τ f = σ f) ∧ (∀ v, ¬ v = 4 → τ 11 v = σ 11 v ∧ τ 12 v = σ 12 v)
theorem doF_trans {σ τ υ : mS} (h : doF σ τ) (h2 : doF τ υ) : doF σ υ := ⟨fun f v f1 f2 hv => (h2.1 f v f1 f2 hv).trans (h.1 f v f1 f2 hv), fun f v f1 f2 hv => (h2.2.1 f v f1 f2 hv).trans (h.2.1 f v f1 f2 hv), fun f hf => (h2.2.2.1 f hf).trans (h.2.2.1 f hf), fun v hv => ⟨(h2.2.2.2 v hv).1.trans (h.2.2.2 v hv).1, (h2.2.2.2 v hv).2.trans (h.2.2.2 v hv).2⟩⟩
theorem doF_go {σ τ : mS} (h : goF σ τ) : doF σ τ := ⟨h.1, h.2.1, fun f hf => h.2.2.1 f (by simp only [List.mem_cons, List.mem_nil_iff, or_false, not_or] at hf ⊢; omega), h.2.2.2⟩
theorem doF_42 (σ : mS) (x : Int) : doF σ (su σ 42 0 x) := ⟨fun f v f1 f2 _ => su_nf (by omega), fun f v f1 f2 _ => su_nf (by omega), fun f hf => su_row (by simp only [List.mem_cons, List.mem_nil_iff, or_false, not_or] at hf; omega), fun v _ => ⟨su_nf (by decide), su_nf (by decide)⟩⟩
theorem doF_q {σ τ : mS} (h : mEq [42] σ τ) : doF σ τ := ⟨fun f v f1 f2 _ => by rw [h f (by simp; omega)], fun f v f1 f2 _ => by rw [h f (by simp; omega)], fun f hf => h f (by simp only [List.mem_cons, List.mem_nil_iff, or_false, not_or] at hf ⊢; omega), fun v _ => ⟨by rw [h 11 (by decide)], by rw [h 12 (by decide)]⟩⟩
theorem doF_nw {σ τ : mS} {N : Int} (hN : 680 ≤ N) (h : nwF σ τ N) : doF σ τ := ⟨fun f v f1 f2 hv => h.1 f v f1 f2 (by omega), fun f v f1 f2 _ => by rw [h.2.1 f (by simp; omega)], fun f hf => h.2.1 f (by simp only [List.mem_cons, List.mem_nil_iff, or_false, not_or] at hf ⊢; omega), fun v hv => ⟨h.2.2 v hv, by rw [h.2.1 12 (by decide)]⟩⟩
theorem doF_ld {σ τ : mS} {n0 n1 z0 z1 : Int} (hn : 680 ≤ n0) (hz : 680 ≤ z0) (h : ldG σ τ n0 n1 z0 z1) : doF σ τ := ⟨fun f v f1 f2 hv => h.1 f v f1 f2 (fun z => by have := z.1; omega), fun f v f1 f2 hv => h.2.1 f v f1 f2 (fun z => by have := z.1; omega), fun f hf => h.2.2.1 f (by simp only [List.mem_cons, List.mem_nil_iff, or_false, not_or] at hf ⊢; omega), h.2.2.2⟩
theorem mO_mr {σ : mS} {A B : Int → Prop} {r : Int} {x : Option vT} (hA : mIx A) (h : mO σ A B r x) : mr r := by
  cases x with
  | none =>
    have h : r = -1 := h
    rw [h]
    exact ⟨by decide, by decide⟩
  | some y =>
    have := hA r h.1
    exact ⟨by omega, by omega⟩
theorem jn_does {β : Bool} {d : Nat} {h : jx_H} {σ : mS} (hl : 49 ≤ h.length) {A0 B0 : Int → Prop} (hA0 : ∀ v, A0 v → 0 ≤ v ∧ v < 680) (hB0 : ∀ v, B0 v → 0 ≤ v ∧ v < 680) {w v : Int} {s : List Int} {i : tI} {F : FT} (hw : 0 ≤ w ∧ w ≤ 8) (hs : tx s) (hV : mV σ A0 B0 v i F) (hv : vok (i, F)) (hc : fct F ≤ 79) (e11 : σ 11 4 = 0) (e12 : σ 12 4 = 0) (e42 : σ 42 0 = 0) :
    ∃ (τ : mS) (r n2 c2 : Int), jx_r (jz β) jw_M (d + 1 + 1 + 1) 246 (0, [some (.ref 15), some (.int (Int32.ofInt (w))), some (.long (Int64.ofInt (pk s))), none, some (.int (Int32.ofInt (v))), none], [], ml_mk h σ) (ml_mk h (τ), .inl (some (.int (Int32.ofInt (r))))) ∧ mr r ∧ τ 42 0 = (doS w s (i, F)).1 ∧ ((doS w s (i, F)).1 = 0 → mO τ (zA A0 n2) (zA B0 c2) r (doS w s (i, F)).2) ∧ τ 11 4 = n2 ∧ (0 ≤ n2 ∧ n2 ≤ 1040) ∧ (0 ≤ c2 ∧ c2 ≤ 1040) ∧ doF σ τ := by
  have hA : mIx A0 := fun x hx => ⟨(hA0 x hx).1, by have := (hA0 x hx).2; omega⟩
  have hB : mIx B0 := fun x hx => ⟨(hB0 x hx).1, by have := (hB0 x hx).2; omega⟩
  obtain ⟨hi, hF⟩ := id hv
  have hi : iok i := hi
  have hF : fwf F := hF
  have hz := fsz_le F
  have hAn : ¬ A0 (170 * 4 + 0) := fun z => by have := (hA0 _ z).2; omega
  have hAn2 : ∀ w, A0 w → w < 170 * 4 + 0 := fun w hw => by have := (hA0 w hw).2; omega
  have hBn : ∀ x, B0 x → ¬ In (170 * 4 + 0) (170 * 4 + 0 + fsz F) x := fun x hx z => by have := (hB0 x hx).2; have := z.1; omega
  have hN : 170 * 4 + σ 11 4 = 170 * 4 + 0 := by rw [e11]
  have mA : ∀ x, (A0 x ∨ x = 170 * 4 + 0) → zA A0 (0 + 1) x := fun x hx => by
    rcases hx with hx | hx
    · exact Or.inl hx
    · exact Or.inr ⟨by omega, by omega⟩
  have mB : ∀ x, (B0 x ∨ In (170 * 4 + 0) (170 * 4 + 0 + fsz F) x) → zA B0 (0 + fsz F) x := fun x hx => by
    rcases hx with hx | hx
    · exact Or.inl hx
    · exact Or.inr ⟨by have := hx.1; omega, by have := hx.2; omega⟩
  have q1 : ∀ (τ : mS) (k x t : Int), τ 11 4 = 0 → mNode τ 4 k x t 11 4 = 0 + 1 := fun τ k x t h => by rw [mNode_11, if_pos rfl, h]
  have q42 : ∀ (τ : mS) (k x t : Int), mNode τ 4 k x t 42 0 = τ 42 0 := fun τ k x t => by rw [mNode_o (by decide)]
  have z1 : zA A0 (0 + 1) (170 * 4 + 0) := Or.inr ⟨by omega, by omega⟩
  have m0 : mr (-1) := ⟨by decide, by decide⟩
  have mN0 : mr (170 * 4 + 0) := ⟨by decide, by decide⟩
  obtain ⟨w0, w8⟩ := hw
  rcases (by omega : w = 0 ∨ w = 1 ∨ w = 2 ∨ w = 3 ∨ w = 4 ∨ w = 5 ∨ w = 6 ∨ w = 7 ∨ w = 8) with rfl | rfl | rfl | rfl | rfl | rfl | rfl | rfl | rfl
  · by_cases hf : fitS 0 i.1 = true
    · have hd : doS 0 s (i, F) = (0, some ((3, lenS i F, [], []), .leaf)) := by
        unfold doS
        rw [if_pos hf]
        rfl
      rw [hd]
      refine ⟨_, 170 * 4 + 0, 0 + 1, 0, jn_do0 (β := β) (d := d) (cc := 0) hl hA hB hs hi hF hV hf e11 (Int.le_refl 0) (by decide), mN0, by rw [q42]; exact e42, fun _ => mV_mk (s := []) hN z1 rfl, q1 σ _ _ _ e11, ⟨by decide, by decide⟩, ⟨by decide, by decide⟩, doF_nw (by decide) (mNode_nw hN)⟩
    · have hd : doS 0 s (i, F) = (1, none) := by
        unfold doS
        rw [if_neg hf]
      rw [hd]
      exact ⟨_, -1, 0, 0, jn_do0_no (β := β) (d := d) (nn := 0) (cc := 0) hl hA hB hs hi hF hV hf, m0, su_eq _ _ _ _, fun z => absurd z (by decide), (su_nf (by decide)).trans e11, ⟨by decide, by decide⟩, ⟨by decide, by decide⟩, doF_42 σ 1⟩
  · by_cases hf : fitS 1 i.1 = true
    · have hd : doS 1 s (i, F) = (0, some (lsV (kys F))) := by
        unfold doS
        rw [if_pos hf]
        rfl
      rw [hd]
      obtain ⟨τ2, r1, r2, r3, r4, r5⟩ := jn_do1 (β := β) (d := d) (σ := σ) (h := h) hl hA hB hs hi hF hV hf e11 (Int.le_refl 0) e12 (Int.le_refl 0) (by omega) (by omega) (by omega) hAn2
      refine ⟨τ2, _, 0 + fsz F + 1, 0 + fsz F, r1, ⟨by omega, by omega⟩, by rw [r5.2.2.1 42 (by decide)]; exact e42, fun _ => mV_mono (fun x hx => Or.inr ⟨by have := hx.1; omega, by have := hx.2; omega⟩) (fun x hx => Or.inr ⟨by have := hx.1; omega, by have := hx.2; omega⟩) r2, r3, ⟨by omega, by omega⟩, ⟨by omega, by omega⟩, doF_ld (by decide) (by decide) r5⟩
    · have hd : doS 1 s (i, F) = (1, none) := by
        unfold doS
        rw [if_neg hf]
      rw [hd]
      exact ⟨_, -1, 0, 0, jn_do1_no (β := β) (d := d) (nn := 0) (cc := 0) hl hA hB hs hi hF hV hf, m0, su_eq _ _ _ _, fun z => absurd z (by decide), (su_nf (by decide)).trans e11, ⟨by decide, by decide⟩, ⟨by decide, by decide⟩, doF_42 σ 1⟩
  · by_cases hf : fitS 2 i.1 = true
    · have hd : doS 2 s (i, F) = (0, some (lsV (sib F))) := by
        unfold doS
        rw [if_pos hf]
        rfl
      rw [hd]
      obtain ⟨τ2, r1, r2, r3, r4, r5⟩ := jn_do2 (β := β) (d := d) (σ := σ) (h := h) hl hA hB hs hi hF hV hf e11 (Int.le_refl 0) (by decide) e12 (Int.le_refl 0) (by omega) (by omega) hAn hBn
      refine ⟨τ2, 170 * 4 + 0, 0 + 1, 0 + fsz F, r1, mN0, by rw [r5.2.2.1 42 (by decide)]; exact e42, fun _ => mV_mono mA mB r2, r3, ⟨by decide, by decide⟩, ⟨by omega, by omega⟩, doF_ld (by decide) (by decide) r5⟩
    · have hd : doS 2 s (i, F) = (1, none) := by
        unfold doS
        rw [if_neg hf]
      rw [hd]
      exact ⟨_, -1, 0, 0, jn_do2_no (β := β) (d := d) (nn := 0) (cc := 0) hl hA hB hs hi hF hV hf, m0, su_eq _ _ _ _, fun z => absurd z (by decide), (su_nf (by decide)).trans e11, ⟨by decide, by decide⟩, ⟨by decide, by decide⟩, doF_42 σ 1⟩
  · by_cases hf : fitS 3 i.1 = true
    · by_cases hb : fsort s 0 F = -1
      · have hd : doS 3 s (i, F) = (2, none) := by
          unfold doS
          rw [if_pos hf]
          show (if fsort s 0 F = -1 then _ else _) = _
          rw [if_pos hb]
        rw [hd]
        exact ⟨_, -1, 0, 0, jn_do3_bad (β := β) (d := d) (nn := 0) (cc := 0) hl hA hB hs hi hF hV hf hb, m0, su_eq _ _ _ _, fun z => absurd z (by decide), (su_nf (by decide)).trans e11, ⟨by decide, by decide⟩, ⟨by decide, by decide⟩, doF_42 σ 2⟩
      · have hd : doS 3 s (i, F) = (0, some (lsV (srt s F))) := by
          unfold doS
          rw [if_pos hf]
          show (if fsort s 0 F = -1 then _ else _) = _
          rw [if_neg hb]
          rfl
        rw [hd]
        obtain ⟨τ2, r1, r2, r3, r4, r5⟩ := jn_do3 (β := β) (d := d) (σ := σ) (h := h) hl hA hB hs hi hF hV hf hb e11 (Int.le_refl 0) (by decide) e12 (Int.le_refl 0) (by omega) (by omega) hAn hBn
        refine ⟨τ2, 170 * 4 + 0, 0 + 1, 0 + fsz F, r1, mN0, by rw [r5.2.2.1 42 (by decide), su_eq], fun _ => mV_mono mA mB r2, r3, ⟨by decide, by decide⟩, ⟨by omega, by omega⟩, doF_trans (doF_42 σ 0) (doF_ld (by decide) (by decide) r5)⟩
    · have hd : doS 3 s (i, F) = (1, none) := by
        unfold doS
        rw [if_neg hf]
      rw [hd]
      exact ⟨_, -1, 0, 0, jn_do3_no (β := β) (d := d) (nn := 0) (cc := 0) hl hA hB hs hi hF hV hf, m0, su_eq _ _ _ _, fun z => absurd z (by decide), (su_nf (by decide)).trans e11, ⟨by decide, by decide⟩, ⟨by decide, by decide⟩, doF_42 σ 1⟩
  · by_cases hf : fitS 4 i.1 = true
    · by_cases h4 : i.1 = 4
      · have hd : doS 4 s (i, F) = (0, some ((4, 0, i.2.2.1.reverse, []), .leaf)) := by
          unfold doS
          rw [if_pos hf]
          show (if i.1 = 4 then _ else _) = _
          rw [if_pos h4]
        rw [hd]
        refine ⟨_, 170 * 4 + 0, 0 + 1, 0, jn_do4T (β := β) (d := d) (cc := 0) hl hA hB hs hi hF hV hf h4 e11 (Int.le_refl 0) (by decide), mN0, by rw [q42]; exact e42, fun _ => mV_mk (s := i.2.2.1.reverse) hN z1 rfl, q1 σ _ _ _ e11, ⟨by decide, by decide⟩, ⟨by decide, by decide⟩, doF_nw (by decide) (mNode_nw hN)⟩
      · have hd : doS 4 s (i, F) = (0, some (lsV ((sib F).reverse))) := by
          unfold doS
          rw [if_pos hf]
          show (if i.1 = 4 then _ else _) = _
          rw [if_neg h4]
        rw [hd]
        obtain ⟨τ2, r1, r2, r3, r4, r5⟩ := jn_do4L (β := β) (d := d) (σ := σ) (h := h) hl hA hB hs hi hF hV hf h4 e11 (Int.le_refl 0) (by decide) e12 (Int.le_refl 0) (by omega) (by omega) hAn hBn
        refine ⟨τ2, 170 * 4 + 0, 0 + 1, 0 + fsz F, r1, mN0, by rw [r5.2.2.1 42 (by decide)]; exact e42, fun _ => mV_mono mA mB r2, r3, ⟨by decide, by decide⟩, ⟨by omega, by omega⟩, doF_ld (by decide) (by decide) r5⟩
    · have hd : doS 4 s (i, F) = (1, none) := by
        unfold doS
        rw [if_neg hf]
      rw [hd]
      exact ⟨_, -1, 0, 0, jn_do4_no (β := β) (d := d) (nn := 0) (cc := 0) hl hA hB hs hi hF hV hf, m0, su_eq _ _ _ _, fun z => absurd z (by decide), (su_nf (by decide)).trans e11, ⟨by decide, by decide⟩, ⟨by decide, by decide⟩, doF_42 σ 1⟩
  · by_cases hf : fitS 5 i.1 = true
    · obtain ⟨τ1, r1, r2, r3⟩ := jn_do5 (β := β) (d := d) (σ := σ) (h := h) (cc := 0) hl hA hB hs hi hF hV hf e11 (Int.le_refl 0) (by decide)
      have f11 : τ1 11 4 = 0 := by rw [r2 11 (by decide)]; exact e11
      have hN1 : 170 * 4 + τ1 11 4 = 170 * 4 + 0 := by rw [f11]
      rw [← mNode_mod] at r1
      refine ⟨_, 170 * 4 + 0, 0 + 1, 0, r1, mN0, ?_, ?_, q1 τ1 _ _ _ f11, ⟨by decide, by decide⟩, ⟨by decide, by decide⟩, doF_trans (doF_q r2) (doF_nw (by decide) (mNode_nw hN1))⟩
      · rw [q42, r3, e42]
        unfold doS
        rw [if_pos hf]
        show _ = (if fnum F = true then _ else _ : Int × Option vT).1
        by_cases hn : fnum F = true
        · rw [if_pos hn, if_pos hn]
        · rw [if_neg hn, if_neg hn]
      · intro z
        by_cases hn : fnum F = true
        · have hd : doS 5 s (i, F) = (0, some ((3, wr32 (ftot 0 F), [], []), .leaf)) := by
            unfold doS
            rw [if_pos hf]
            show (if fnum F = true then _ else _) = _
            rw [if_pos hn]
          rw [hd]
          exact mV_mk (s := []) hN1 z1 rfl
        · have hd : doS 5 s (i, F) = (2, none) := by
            unfold doS
            rw [if_pos hf]
            show (if fnum F = true then _ else _) = _
            rw [if_neg hn]
          rw [hd] at z
          exact absurd z (by decide)
    · have hd : doS 5 s (i, F) = (1, none) := by
        unfold doS
        rw [if_neg hf]
      rw [hd]
      exact ⟨_, -1, 0, 0, jn_do5_no (β := β) (d := d) (nn := 0) (cc := 0) hl hA hB hs hi hF hV hf, m0, su_eq _ _ _ _, fun z => absurd z (by decide), (su_nf (by decide)).trans e11, ⟨by decide, by decide⟩, ⟨by decide, by decide⟩, doF_42 σ 1⟩
  · by_cases hf : fitS 6 i.1 = true
    · by_cases hb : fsort s 0 F = -1
      · have hd : doS 6 s (i, F) = (2, none) := by
          unfold doS
          rw [if_pos hf]
          show (if fsort s 0 F = -1 then _ else _) = _
          rw [if_pos hb]
        rw [hd]
        exact ⟨_, -1, 0, 0, jn_do6_bad (β := β) (d := d) (nn := 0) (cc := 0) hl hA hB hs hi hF hV hf hb, m0, su_eq _ _ _ _, fun z => absurd z (by decide), (su_nf (by decide)).trans e11, ⟨by decide, by decide⟩, ⟨by decide, by decide⟩, doF_42 σ 2⟩
      · have hd : doS 6 s (i, F) = (0, fbest0 true F) := by
          unfold doS
          rw [if_pos hf]
          show (if fsort s 0 F = -1 then _ else _) = _
          rw [if_neg hb]
          rfl
        rw [hd]
        obtain ⟨r, r1, r2⟩ := jn_do6 (β := β) (d := d) (σ := σ) (h := h) (nn := 0) (cc := 0) hl hA hB hs hi hF hV hf hb
        refine ⟨_, r, 0, 0, r1, mO_mr hA r2, su_eq _ _ _ _, fun _ => mO_mono (fun v h => Or.inl h) (fun v h => Or.inl h) r2, (su_nf (by decide)).trans e11, ⟨by decide, by decide⟩, ⟨by decide, by decide⟩, doF_42 σ 0⟩
    · have hd : doS 6 s (i, F) = (1, none) := by
        unfold doS
        rw [if_neg hf]
      rw [hd]
      exact ⟨_, -1, 0, 0, jn_do6_no (β := β) (d := d) (nn := 0) (cc := 0) hl hA hB hs hi hF hV hf, m0, su_eq _ _ _ _, fun z => absurd z (by decide), (su_nf (by decide)).trans e11, ⟨by decide, by decide⟩, ⟨by decide, by decide⟩, doF_42 σ 1⟩
  · by_cases hf : fitS 7 i.1 = true
    · by_cases hb : fsort s 0 F = -1
      · have hd : doS 7 s (i, F) = (2, none) := by
          unfold doS
          rw [if_pos hf]
          show (if fsort s 0 F = -1 then _ else _) = _
          rw [if_pos hb]
        rw [hd]
        exact ⟨_, -1, 0, 0, jn_do7_bad (β := β) (d := d) (nn := 0) (cc := 0) hl hA hB hs hi hF hV hf hb, m0, su_eq _ _ _ _, fun z => absurd z (by decide), (su_nf (by decide)).trans e11, ⟨by decide, by decide⟩, ⟨by decide, by decide⟩, doF_42 σ 2⟩
      · have hd : doS 7 s (i, F) = (0, fbest0 false F) := by
          unfold doS
          rw [if_pos hf]
          show (if fsort s 0 F = -1 then _ else _) = _
          rw [if_neg hb]
          rfl
        rw [hd]
        obtain ⟨r, r1, r2⟩ := jn_do7 (β := β) (d := d) (σ := σ) (h := h) (nn := 0) (cc := 0) hl hA hB hs hi hF hV hf hb
        refine ⟨_, r, 0, 0, r1, mO_mr hA r2, su_eq _ _ _ _, fun _ => mO_mono (fun v h => Or.inl h) (fun v h => Or.inl h) r2, (su_nf (by decide)).trans e11, ⟨by decide, by decide⟩, ⟨by decide, by decide⟩, doF_42 σ 0⟩
    · have hd : doS 7 s (i, F) = (1, none) := by
        unfold doS
        rw [if_neg hf]
      rw [hd]
      exact ⟨_, -1, 0, 0, jn_do7_no (β := β) (d := d) (nn := 0) (cc := 0) hl hA hB hs hi hF hV hf, m0, su_eq _ _ _ _, fun z => absurd z (by decide), (su_nf (by decide)).trans e11, ⟨by decide, by decide⟩, ⟨by decide, by decide⟩, doF_42 σ 1⟩
  · by_cases hf : fitS 8 i.1 = true
    · have hd : doS 8 s (i, F) = (0, some ((4, 0, tyS i.1, []), .leaf)) := by
        unfold doS
        rw [if_pos hf]
        rfl
      rw [hd]
      refine ⟨_, 170 * 4 + 0, 0 + 1, 0, jn_do8 (β := β) (d := d) (cc := 0) hl hA hB hs hi hF hV hf e11 (Int.le_refl 0) (by decide), mN0, by rw [q42]; exact e42, fun _ => mV_mk (s := tyS i.1) hN z1 rfl, q1 σ _ _ _ e11, ⟨by decide, by decide⟩, ⟨by decide, by decide⟩, doF_nw (by decide) (mNode_nw hN)⟩
    · have hd : doS 8 s (i, F) = (1, none) := by
        unfold doS
        rw [if_neg hf]
      rw [hd]
      exact ⟨_, -1, 0, 0, jn_do8_no (β := β) (d := d) (nn := 0) (cc := 0) hl hA hB hs hi hF hV hf, m0, su_eq _ _ _ _, fun z => absurd z (by decide), (su_nf (by decide)).trans e11, ⟨by decide, by decide⟩, ⟨by decide, by decide⟩, doF_42 σ 1⟩
