/-! ===== a list or an object that is being read ===== -/
def In (lo hi v : Int) : Prop := lo ≤ v ∧ v < hi
def rs (T : Int → Int) (n : Int) (τ : mS) (p N C : Int) : Prop := τ 1 = T ∧ τ 2 0 = n ∧ τ 28 0 = p ∧ τ 29 0 = 0 ∧ τ 11 4 = N - 680 ∧ τ 12 4 = C - 680 ∧ 680 ≤ C ∧ C ≤ N ∧ N - 680 ≤ p ∧ 0 ≤ p ∧ p ≤ n
def frL : List Nat := [3, 4, 5, 6, 7, 8, 9, 10, 11, 12, 28, 29, 31, 32, 33, 34, 35]
/-- what was there before is as it was -/
def fr (τ τ' : mS) (N C a : Int) : Prop := (∀ f v, 3 ≤ f → f ≤ 7 → v < N → τ' f v = τ f v) ∧ (∀ f x, 8 ≤ f → f ≤ 10 → x < C → τ' f x = τ f x) ∧ (∀ t, t < a → τ' 33 t = τ 33 t ∧ τ' 34 t = τ 34 t ∧ τ' 35 t = τ 35 t) ∧ (∀ z, ¬ z = 4 → τ' 11 z = τ 11 z ∧ τ' 12 z = τ 12 z) ∧ (∀ f, f ∉ frL → τ' f = τ f)
theorem fr_trans {τ τ' τ2 : mS} {N C a N' C' a' : Int} (h : fr τ τ' N C a) (h' : fr τ' τ2 N' C' a') (hN : N ≤ N') (hC : C ≤ C') (ha : a ≤ a') : fr τ τ2 N C a := by
  obtain ⟨h1, h2, h3, h4, h5⟩ := h
  obtain ⟨k1, k2, k3, k4, k5⟩ := h'
  refine ⟨fun f v f1 f2 hv => (k1 f v f1 f2 (by omega)).trans (h1 f v f1 f2 hv), fun f x f1 f2 hx => (k2 f x f1 f2 (by omega)).trans (h2 f x f1 f2 hx), fun t ht => ?_, fun z hz => ?_, fun f hf => (k5 f hf).trans (h5 f hf)⟩
  · obtain ⟨a1, a2, a3⟩ := h3 t ht
    obtain ⟨b1, b2, b3⟩ := k3 t (by omega)
    exact ⟨b1.trans a1, b2.trans a2, b3.trans a3⟩
  · obtain ⟨a1, a2⟩ := h4 z hz
    obtain ⟨b1, b2⟩ := k4 z hz
    exact ⟨b1.trans a1, b2.trans a2⟩
theorem fr_weak {τ τ' : mS} {N C a N' C' a' : Int} (h : fr τ τ' N C a) (hN : N' ≤ N) (hC : C' ≤ C) (ha : a' ≤ a) : fr τ τ' N' C' a' := by
  obtain ⟨h1, h2, h3, h4, h5⟩ := h
  exact ⟨fun f v f1 f2 hv => h1 f v f1 f2 (by omega), fun f x f1 f2 hx => h2 f x f1 f2 (by omega), fun t ht => h3 t (by omega), h4, h5⟩
theorem fr_eq {L : List Nat} {τ τ' : mS} {N C a : Int} (h : mEq L τ τ') (hL : ∀ f ∈ L, f ∈ [28, 29, 31, 32]) : fr τ τ' N C a := by
  have key : ∀ f, f ∉ [28, 29, 31, 32] → τ' f = τ f := fun f hf => h f (fun z => hf (hL f z))
  refine ⟨fun f v f1 f2 _ => by rw [key f (by simp; omega)], fun f x f1 f2 _ => by rw [key f (by simp; omega)], fun t _ => ?_, fun z _ => ?_, fun f hf => key f (fun z => hf ?_)⟩
  · rw [key 33 (by decide), key 34 (by decide), key 35 (by decide)]
    exact ⟨rfl, rfl, rfl⟩
  · rw [key 11 (by decide), key 12 (by decide)]
    exact ⟨rfl, rfl⟩
  · simp only [List.mem_cons, List.mem_nil_iff, or_false] at z
    unfold frL
    simp only [List.mem_cons, List.mem_nil_iff, or_false]
    omega
theorem fr_name {τ τ' : mS} {N C a : Int} (h : mEq [28, 31, 35] τ τ') (h35 : ∀ t, ¬ t = a → τ' 35 t = τ 35 t) : fr τ τ' N C a := by
  refine ⟨fun f v f1 f2 _ => by rw [h f (by simp; omega)], fun f x f1 f2 _ => by rw [h f (by simp; omega)], fun t ht => ?_, fun z _ => ?_, fun f hf => h f (fun z => hf ?_)⟩
  · rw [h 33 (by decide), h 34 (by decide)]
    exact ⟨rfl, rfl, h35 t (by omega)⟩
  · rw [h 11 (by decide), h 12 (by decide)]
    exact ⟨rfl, rfl⟩
  · simp only [List.mem_cons, List.mem_nil_iff, or_false] at z
    unfold frL
    simp only [List.mem_cons, List.mem_nil_iff, or_false]
    omega
section LST
variable {σ τ : mS} {A B D A' B' D' : Int → Prop}
theorem lst_frame (hD : ∀ x, D x → τ 10 x = σ 10 x) : ∀ (F : FT) (x y : Int), mFo σ A B D F x → lst τ F x y = lst σ F x y
  | .leaf, _, _, _ => rfl
  | .inner _ _ _ _ n, x, y, h => by
    show lst τ n (τ 10 x) x = lst σ n (σ 10 x) x
    rw [hD x h.1, lst_frame hD n _ _ h.2.2.2.2.2]
theorem lst_rep {i : tI} {c : FT} : ∀ (F : FT) (x y : Int), lst σ (frep i c F) x y = lst σ F x y
  | .leaf, _, _ => rfl
  | .inner s j u e n, x, y => by
    unfold frep
    split
    · rfl
    · show lst σ (frep i c n) (σ 10 x) x = lst σ n (σ 10 x) x
      rw [lst_rep n]
theorem lst_app (hDx : mIx D) {i : tI} {c : FT} {z : Int} : ∀ (F : FT) (x y : Int), (∀ v, D v → ¬ v = lst σ F x y → τ 10 v = σ 10 v) → (¬ fsz F = 0 → τ 10 (lst σ F x y) = z) → mFo σ A B D F x → lst τ (fapp i c F) (if fsz F = 0 then z else x) y = z
  | .leaf, x, y, _, _, _ => by
    rw [if_pos (show fsz .leaf = 0 from rfl)]
    rfl
  | .inner s j u e n, x, y, hD, hl, h => by
    rw [if_neg (by show ¬ fsz n + 1 = 0; omega)]
    obtain ⟨h1, h2, h3, h4, h5, h6⟩ := h
    have hl : τ 10 (lst σ n (σ 10 x) x) = z := hl (by show ¬ fsz n + 1 = 0; omega)
    have key := lst_app (i := i) (c := c) hDx n (σ 10 x) x hD (fun _ => hl) h6
    obtain ⟨k1, k2⟩ := lst_spec n (σ 10 x) x h6
    show lst τ (fapp i c n) (τ 10 x) x = z
    by_cases hz0 : fsz n = 0
    · rw [if_pos hz0] at key
      rw [k1 hz0] at hl
      rw [hl]
      exact key
    · rw [if_neg hz0] at key
      have hne : ¬ x = lst σ n (σ 10 x) x := by
        intro e1
        have e2 := (k2 hz0).2
        rw [← e1] at e2
        cases n with
        | leaf => exact hz0 rfl
        | inner s j u e m =>
          have := hDx _ h6.1
          omega
      rw [hD x h1 hne]
      exact key
end LST
/-- the container w at level a, with this in it by now: its nodes up to N, its cells from c0 up to C -/
def cont (τ : mS) (a w kd c0 N C : Int) (F : FT) : Prop := ∃ A B D : Int → Prop, τ 33 a = w ∧ mN τ w (kd, 0, [], []) (fsz F) ∧ mFo τ A B D F (τ 6 w) ∧ (∀ v, A v → In (w + 1) N v) ∧ (∀ x, B x → In c0 C x) ∧ (∀ x, D x → In c0 C x) ∧ (∀ x, D x → ¬ B x) ∧ τ 34 a = lst τ F (τ 6 w) (-1)
theorem cont_fr {τ τ' : mS} {a w kd c0 N C N' C' b : Int} {F : FT} (h : cont τ a w kd c0 N C F) (hf : fr τ τ' N C b) (hb : a < b) (hw : w < N) (hN : N ≤ N') (hC : C ≤ C') : cont τ' a w kd c0 N' C' F := by
  obtain ⟨A, B, D, h1, ⟨n1, n2, n3, n4⟩, h3, h4, h5, h6, h7, h8⟩ := h
  obtain ⟨f1, f2, f3, f4, f5⟩ := hf
  obtain ⟨g1, g2, g3⟩ := f3 a hb
  have hA : ∀ v, A v → τ' 3 v = τ 3 v ∧ τ' 4 v = τ 4 v ∧ τ' 5 v = τ 5 v ∧ τ' 6 v = τ 6 v ∧ τ' 7 v = τ 7 v := fun v hv => by
    have := (h4 v hv).2
    exact ⟨f1 3 v (by decide) (by decide) this, f1 4 v (by decide) (by decide) this, f1 5 v (by decide) (by decide) this, f1 6 v (by decide) (by decide) this, f1 7 v (by decide) (by decide) this⟩
  have hB : ∀ x, B x → τ' 8 x = τ 8 x ∧ τ' 9 x = τ 9 x ∧ τ' 10 x = τ 10 x := fun x hx => by
    have := (h5 x hx).2
    exact ⟨f2 8 x (by decide) (by decide) this, f2 9 x (by decide) (by decide) this, f2 10 x (by decide) (by decide) this⟩
  have hD : ∀ x, D x → τ' 8 x = τ 8 x ∧ τ' 9 x = τ 9 x ∧ τ' 10 x = τ 10 x := fun x hx => by
    have := (h6 x hx).2
    exact ⟨f2 8 x (by decide) (by decide) this, f2 9 x (by decide) (by decide) this, f2 10 x (by decide) (by decide) this⟩
  have e6 : τ' 6 w = τ 6 w := f1 6 w (by decide) (by decide) hw
  refine ⟨A, B, D, g1.trans h1, ⟨(f1 3 w (by decide) (by decide) hw).trans n1, (f1 4 w (by decide) (by decide) hw).trans n2, (f1 5 w (by decide) (by decide) hw).trans n3, (f1 7 w (by decide) (by decide) hw).trans n4⟩, ?_, fun v hv => ⟨(h4 v hv).1, by have := (h4 v hv).2; omega⟩, fun x hx => ⟨(h5 x hx).1, by have := (h5 x hx).2; omega⟩, fun x hx => ⟨(h6 x hx).1, by have := (h6 x hx).2; omega⟩, h7, ?_⟩
  · rw [e6]
    exact mFo_frame hA hB hD (fun _ h => h) (fun _ h => h) (fun _ h => h) F _ h3
  · rw [g2, h8, e6]
    exact (lst_frame (fun x hx => (hD x hx).2.2) F _ _ h3).symm
/-- a value goes into the container -/
theorem cont_put {β : Bool} {d : Nat} {h : jx_H} (hl : 49 ≤ h.length) {T : Int → Int} {n : Int} (ht : tOK T n) {τ : mS} {a w kd c0 N C N1 C1 q v : Int} {ob : Bool} {F c : FT} {i : tI} {s : List Int} (ha : 0 ≤ a ∧ a < 5) (hkd : kd = if ob = true then 6 else 5) (hc : cont τ a w kd c0 N C F) (hr : rs T n τ q N1 C1) (hw : 680 ≤ w ∧ w < N) (hN : N ≤ N1) (hC : C ≤ C1) (hc0 : 680 ≤ c0 ∧ c0 ≤ C) (e35 : τ 35 a = pk s) (hs : tx s) (hF : fwf F) (hV : mV τ (In N N1) (In C C1) v i c) : ∃ (τ2 : mS) (C2 : Int), jx_r (jz β) jw_M (d + 5) 228 (0, [some (.ref 15), some (.int (Int32.ofInt a)), some (.int (Int32.ofInt v)), none, none], [], ml_mk h τ) (ml_mk h τ2, .inl none) ∧ cont τ2 a w kd c0 N1 C2 (fput ob (wk i s) c F) ∧ τ2 1 = T ∧ τ2 2 0 = n ∧ τ2 28 0 = q ∧ τ2 29 0 = 0 ∧ τ2 11 4 = N1 - 680 ∧ τ2 12 4 = C2 - 680 ∧ C1 ≤ C2 ∧ C2 ≤ C1 + 1 ∧ fr τ τ2 w c0 a := by
  obtain ⟨A, B, D, h1, ⟨n1, n2, n3, n4⟩, h3, h4, h5, h6, h7, h8⟩ := hc
  obtain ⟨r1, r2, r3, r4, r5, r6, r7, r8, r9, r10, r11⟩ := hr
  obtain ⟨a1, hN1, hF1⟩ := hV
  obtain ⟨t0, t1, t2⟩ := ht
  have n1 : τ 3 w = kd := n1
  have hkd6 : 0 ≤ kd ∧ kd ≤ 6 := by rw [hkd]; split <;> omega
  have hDx : mIx D := fun x hx => by
    have := h6 x hx
    unfold In at this
    omega
  have hww : 0 ≤ w ∧ w < 1740 := by omega
  obtain ⟨v0, v1⟩ : N ≤ v ∧ v < N1 := a1
  have hA2 : ∀ v, A v → In (w + 1) N1 v := fun v hv => ⟨(h4 v hv).1, by have := (h4 v hv).2; omega⟩
  have hBB : ∀ x, B x → In c0 C1 x ∧ ¬ D x := fun x hx => ⟨⟨(h5 x hx).1, by have := (h5 x hx).2; omega⟩, fun hd => h7 x hd hx⟩
  by_cases hput : ob = true ∧ (fget s F).isSome = true
  · have hk6 : kd = 6 := by rw [hkd, if_pos hput.1]
    obtain ⟨y, p1, p2⟩ := jn_put_old (β := β) (d := d + 4) (σ := τ) (wh := v) hl ha h1 hww n1 hkd6 h8 e35 hs hDx (fwf_ok F hF) h3 hk6 hput.2
    obtain ⟨py, -⟩ := atk_sz F _ y h3 p2
    have yb := h6 y py
    have hfp : fput ob (wk i s) c F = frep (wk i s) c F := if_pos hput
    rw [hfp]
    refine ⟨su τ 8 y v, C1, p1, ?_, (su_row (by decide)).trans r1, (su_nf (by decide)).trans r2, (su_nf (by decide)).trans r3, (su_nf (by decide)).trans r4, (su_nf (by decide)).trans r5, (su_nf (by decide)).trans r6, Int.le_refl _, by omega, ?_⟩
    · have e6 : su τ 8 y v 6 w = τ 6 w := su_nf (by decide)
      refine ⟨In (w + 1) N1, fun x => In c0 C1 x ∧ ¬ D x, D, (su_nf (by decide)).trans h1, ⟨(su_nf (by decide)).trans n1, (su_nf (by decide)).trans n2, (su_nf (by decide)).trans n3, by rw [fsz_rep]; exact (su_nf (by decide)).trans n4⟩, ?_, fun v hv => hv, fun x hx => hx.1, fun x hx => ⟨(h6 x hx).1, by have := (h6 x hx).2; omega⟩, fun x hd hb => hb.2 hd, ?_⟩
      · rw [e6]
        refine mFo_rep hDx (y := y) (w := v) (fun _ _ => ⟨su_nf (by decide), su_nf (by decide), su_nf (by decide), su_nf (by decide), su_nf (by decide)⟩) (fun x hx => ⟨su_ni (fun e => h7 y py (by rw [← e]; exact hx)), su_nf (by decide), su_nf (by decide)⟩) (fun x hx => ⟨fun e => su_ni e, su_nf (by decide), su_nf (by decide)⟩) hA2 hBB (su_eq _ _ _ _) ⟨⟨by omega, v1⟩, ?_, ?_⟩ F _ h3 p2
        · obtain ⟨m1, m2, m3, m4⟩ := hN1
          exact ⟨(su_nf (by decide)).trans m1, (su_nf (by decide)).trans m2, (su_nf (by decide)).trans m3, (su_nf (by decide)).trans m4⟩
        · rw [show su τ 8 y v 6 v = τ 6 v from su_nf (by decide)]
          refine mF_mono (fun x hx => ⟨by have := hx.1; omega, hx.2⟩) (fun x hx => ⟨⟨by have := hx.1; omega, hx.2⟩, fun hd => by have := (h6 x hd).2; have := hx.1; omega⟩) c _ (mF_frame (fun _ _ => ⟨su_nf (by decide), su_nf (by decide), su_nf (by decide), su_nf (by decide), su_nf (by decide)⟩) (fun x hx => ⟨su_ni (fun e => by have := yb.2; have := hx.1; omega), su_nf (by decide), su_nf (by decide)⟩) c _ hF1)
      · rw [e6, show su τ 8 y v 34 a = τ 34 a from su_nf (by decide), h8, lst_rep]
        exact (lst_frame (fun x _ => su_nf (by decide)) F _ _ h3).symm
    · refine ⟨fun f x f1 f2 _ => su_nf (by omega), fun f x f1 f2 hx => su_ni (by have := yb.1; omega), fun t _ => ⟨su_nf (by decide), su_nf (by decide), su_nf (by decide)⟩, fun z _ => ⟨su_nf (by decide), su_nf (by decide)⟩, fun f hf => su_row (fun e => hf (by rw [e]; decide))⟩
  · obtain ⟨k1, k2⟩ := lst_spec F (τ 6 w) (-1) h3
    obtain ⟨lf, li, hlk, hlf⟩ : ∃ (lf : Nat) (li : Int), mLk (lst τ F (τ 6 w) (-1)) w lf li ∧ ((fsz F = 0 ∧ lf = 6 ∧ li = w) ∨ (¬ fsz F = 0 ∧ lf = 10 ∧ li = lst τ F (τ 6 w) (-1) ∧ D li)) := by
      by_cases hz : fsz F = 0
      · exact ⟨6, w, Or.inl ⟨k1 hz, rfl, rfl⟩, Or.inl ⟨hz, rfl, rfl⟩⟩
      · have hd := (k2 hz).1
        have := hDx _ hd
        exact ⟨10, lst τ F (τ 6 w) (-1), Or.inr ⟨this.1, this.2, rfl, rfl⟩, Or.inr ⟨hz, rfl, rfl, hd⟩⟩
    have hlf2 : lf = 6 ∨ lf = 10 := by rcases hlf with ⟨-, h, -⟩ | ⟨-, h, -⟩; exact Or.inl h; exact Or.inr h
    have hg : kd = 6 → fget s F = none := fun hk => by
      have hob : ob = true := by
        cases ob with
        | true => rfl
        | false => rw [hkd] at hk; exact absurd hk (by decide)
      cases hx : fget s F with
      | none => rfl
      | some y => exact absurd ⟨hob, by rw [hx]; rfl⟩ hput
    have p1 := jn_put_new (β := β) (d := d + 4) (σ := τ) (wh := v) (s := s) hl ha h1 hww n1 hkd6 h8 e35 hs hDx (fwf_ok F hF) h3 r6 (by omega) (by omega) hlk hg
    have hfp : fput ob (wk i s) c F = fapp (wk i s) c F := if_neg hput
    rw [hfp]
    have ez : 170 * 4 + τ 12 4 = C1 := by rw [r6]; omega
    obtain ⟨τ2, hτ2⟩ : ∃ τ2, τ2 = su (mJoin τ 4 w lf li v (pk s)) 34 (a) (170 * 4 + (C1 - 680)) := ⟨_, rfl⟩
    rw [← hτ2] at p1
    have q8 : ∀ x, τ2 8 x = if x = C1 then v else τ 8 x := fun x => by rw [hτ2, su_nf (by decide), mJoin_8 (by omega), ez]
    have q9 : ∀ x, τ2 9 x = if x = C1 then pk s else τ 9 x := fun x => by rw [hτ2, su_nf (by decide), mJoin_9 (by omega), ez]
    have q10 : ∀ x, τ2 10 x = if lf = 10 ∧ x = li then C1 else if x = C1 then -1 else τ 10 x := fun x => by rw [hτ2, su_nf (by decide), mJoin_10, ez]
    have q6 : ∀ x, τ2 6 x = if lf = 6 ∧ x = li then C1 else τ 6 x := fun x => by rw [hτ2, su_nf (by decide), mJoin_6 hlf2, ez]
    have q7 : ∀ x, τ2 7 x = if x = w then τ 7 w + 1 else τ 7 x := fun x => by rw [hτ2, su_nf (by decide), mJoin_7, if_neg (by omega : ¬ (lf = 7 ∧ x = li))]
    have qo : ∀ f, f ∉ [6, 7, 8, 9, 10, 12, 34] → τ2 f = τ f := fun f hf => by
      simp only [List.mem_cons, List.mem_nil_iff, or_false, not_or] at hf
      rw [hτ2, su_row hf.2.2.2.2.2.2, mJoin_o hlf2 (by simp only [List.mem_cons, List.mem_nil_iff, or_false, not_or]; exact ⟨hf.1, hf.2.1, hf.2.2.1, hf.2.2.2.1, hf.2.2.2.2.1, hf.2.2.2.2.2.1⟩)]
    have hA3 : ∀ x, w < x → τ2 3 x = τ 3 x ∧ τ2 4 x = τ 4 x ∧ τ2 5 x = τ 5 x ∧ τ2 6 x = τ 6 x ∧ τ2 7 x = τ 7 x := fun x hx => by
      refine ⟨by rw [qo 3 (by decide)], by rw [qo 4 (by decide)], by rw [qo 5 (by decide)], ?_, ?_⟩
      · rw [q6, if_neg]
        rcases hlf with ⟨-, -, l⟩ | ⟨-, l, -⟩ <;> omega
      · rw [q7, if_neg (by omega)]
    have hB3 : ∀ x, x < C1 → ¬ D x → τ2 8 x = τ 8 x ∧ τ2 9 x = τ 9 x ∧ τ2 10 x = τ 10 x := fun x hx hnd => by
      refine ⟨by rw [q8, if_neg (by omega)], by rw [q9, if_neg (by omega)], ?_⟩
      rw [q10, if_neg, if_neg (by omega)]
      rcases hlf with ⟨-, l, -⟩ | ⟨-, -, -, l⟩
      · omega
      · rintro ⟨-, e⟩
        exact hnd (by rw [e]; exact l)
    refine ⟨τ2, C1 + 1, p1, ?_, by rw [qo 1 (by decide)]; exact r1, by rw [qo 2 (by decide)]; exact r2, by rw [qo 28 (by decide)]; exact r3, by rw [qo 29 (by decide)]; exact r4, by rw [qo 11 (by decide)]; exact r5, ?_, by omega, by omega, ?_⟩
    · have hD3 : ∀ x, D x → τ2 8 x = τ 8 x ∧ τ2 9 x = τ 9 x ∧ (¬ x = lst τ F (τ 6 w) (-1) → τ2 10 x = τ 10 x) := fun x hx => by
        have hb := h6 x hx
        refine ⟨by rw [q8, if_neg (by have := hb.2; omega)], by rw [q9, if_neg (by have := hb.2; omega)], fun hne => ?_⟩
        rw [q10, if_neg, if_neg (by have := hb.2; omega)]
        rcases hlf with ⟨-, l, -⟩ | ⟨-, -, l, -⟩
        · omega
        · rintro ⟨-, e⟩
          exact hne (e.trans l)
      have hlast : ¬ fsz F = 0 → τ2 10 (lst τ F (τ 6 w) (-1)) = C1 := fun hz => by
        rcases hlf with ⟨l, -⟩ | ⟨-, l1, l2, -⟩
        · exact absurd l hz
        · rw [q10, if_pos ⟨l1, l2.symm⟩]
      have e6 : τ2 6 w = if fsz F = 0 then C1 else τ 6 w := by
        rw [q6]
        rcases hlf with ⟨l1, l2, l3⟩ | ⟨l1, l2, -⟩
        · rw [if_pos ⟨l2, l3.symm⟩, if_pos l1]
        · rw [if_neg (by omega), if_neg l1]
      refine ⟨In (w + 1) N1, fun x => In c0 C1 x ∧ ¬ D x, fun x => D x ∨ x = C1, by rw [qo 33 (by decide)]; exact h1, ⟨by rw [qo 3 (by decide)]; exact n1, by rw [qo 4 (by decide)]; exact n2, by rw [qo 5 (by decide)]; exact n3, ?_⟩, ?_, fun v hv => hv, fun x hx => ⟨hx.1.1, by have := hx.1.2; omega⟩, fun x hx => ?_, fun x hd hb => ?_, ?_⟩
      · rw [q7, if_pos rfl, n4, fsz_app]
        omega
      · rw [e6]
        refine mFo_app (D' := fun x => D x ∨ x = C1) hDx (i := wk i s) (c := c) (z := C1) (w := v) (fun x hx => hA3 x (by have := (h4 x hx).1; omega)) (fun x hx => hB3 x (by have := (h5 x hx).2; omega) (fun hd => h7 x hd hx)) hA2 hBB (fun x hx => Or.inl hx) ⟨Or.inr rfl, by rw [q8, if_pos rfl], by rw [q9, if_pos rfl]; rfl, ?_⟩ ⟨⟨by omega, v1⟩, ?_, ?_⟩ F _ (-1) hD3 hlast h3
        · rw [q10, if_neg, if_pos rfl]
          rcases hlf with ⟨-, l, -⟩ | ⟨-, -, -, l⟩
          · omega
          · rintro ⟨-, e⟩
            have := (h6 _ l).2
            omega
        · obtain ⟨m1, m2, m3, m4⟩ := hN1
          obtain ⟨x1, x2, x3, x4, x5⟩ := hA3 v (by omega)
          exact ⟨x1.trans m1, x2.trans m2, x3.trans m3, x5.trans m4⟩
        · rw [(hA3 v (by omega)).2.2.2.1]
          exact mF_mono (fun x hx => ⟨by have := hx.1; omega, hx.2⟩) (fun x hx => ⟨⟨by have := hx.1; omega, hx.2⟩, fun hd => by have := (h6 x hd).2; have := hx.1; omega⟩) c _ (mF_frame (fun x hx => hA3 x (by have := hx.1; omega)) (fun x hx => hB3 x hx.2 (fun hd => by have := (h6 x hd).2; have := hx.1; omega)) c _ hF1)
      · rcases hx with hx | rfl
        · exact ⟨(h6 x hx).1, by have := (h6 x hx).2; omega⟩
        · exact ⟨by omega, by omega⟩
      · rcases hd with hd | rfl
        · exact hb.2 hd
        · have := hb.1.2
          omega
      · rw [e6, lst_app hDx F (τ 6 w) (-1) (fun x hx hne => (hD3 x hx).2.2 hne) hlast h3, hτ2, su_eq]
        omega
    · rw [hτ2, su_nf (by decide), mJoin_12 (by omega), if_pos rfl, r6]
      omega
    · refine ⟨fun f x f1 f2 hx => ?_, fun f x f1 f2 hx => ?_, fun t ht => ?_, fun z hz => ?_, fun f hf => qo f (fun z => hf ?_)⟩
      · obtain rfl | rfl | rfl | rfl | rfl : f = 3 ∨ f = 4 ∨ f = 5 ∨ f = 6 ∨ f = 7 := by omega
        · rw [qo 3 (by decide)]
        · rw [qo 4 (by decide)]
        · rw [qo 5 (by decide)]
        · rw [q6, if_neg]
          rcases hlf with ⟨-, -, l⟩ | ⟨-, l, -⟩ <;> omega
        · rw [q7, if_neg (by omega)]
      · have hnd : ¬ D x := fun hd => by have := (h6 x hd).1; omega
        obtain ⟨x1, x2, x3⟩ := hB3 x (by omega) hnd
        obtain rfl | rfl | rfl : f = 8 ∨ f = 9 ∨ f = 10 := by omega
        · exact x1
        · exact x2
        · exact x3
      · rw [qo 33 (by decide), qo 35 (by decide), hτ2, su_ni (by omega), mJoin_o hlf2 (by decide)]
        exact ⟨rfl, rfl, rfl⟩
      · rw [qo 11 (by decide), hτ2, su_nf (by decide), mJoin_12 (by omega), if_neg hz]
        exact ⟨rfl, rfl⟩
      · simp only [List.mem_cons, List.mem_nil_iff, or_false] at z
        unfold frL
        simp only [List.mem_cons, List.mem_nil_iff, or_false]
        omega
