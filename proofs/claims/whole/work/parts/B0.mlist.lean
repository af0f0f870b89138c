/-! ===== the model makes a list in its work zone ===== -/
/-- a list of these -/
def fl : List (tI × FT) → FT
  | [] => .leaf
  | (i, c) :: l => .inner 0 (wk i []) () c (fl l)
theorem fl_snoc (i : tI) (c : FT) : ∀ l : List (tI × FT), fl (l ++ [(i, c)]) = fapp (wk i []) c (fl l)
  | [] => rfl
  | (j, e) :: l => by
    show Std.DTreeMap.Internal.Impl.inner 0 (wk j []) () e (fl (l ++ [(i, c)])) = _
    rw [fl_snoc i c l]
    rfl
theorem fl_sz : ∀ l : List (tI × FT), fsz (fl l) = l.length
  | [] => rfl
  | (j, e) :: l => by
    show fsz (fl l) + 1 = l.length + 1
    rw [fl_sz l]
/-- the node L is a list being made: F is in it by now, bh is its last cell -/
def lb (τ : mS) (L : Int) (F : FT) (bh : Int) (A B D : Int → Prop) : Prop := mN τ L (5, 0, [], []) (fsz F) ∧ mFo τ A B D F (τ 6 L) ∧ bh = lst τ F (τ 6 L) (-1) ∧ (∀ x, D x → ¬ B x) ∧ ¬ A L ∧ mIx D
theorem lb_new {τ : mS} {A B : Int → Prop} {L : Int} (hL : ¬ A L) (h : mN τ L (5, 0, [], []) 0) (h6 : τ 6 L = -1) : lb τ L .leaf (-1) A B (fun _ => False) := ⟨h, h6, rfl, fun _ h => absurd h id, hL, fun _ h => absurd h id⟩
/-- where the link lies -/
theorem lb_lk {τ : mS} {L bh : Int} {F : FT} {A B D : Int → Prop} (h : lb τ L F bh A B D) : ∃ (lf : Nat) (li : Int), mLk bh L lf li ∧ (lf = 6 ∨ lf = 10) ∧ ((fsz F = 0 ∧ lf = 6 ∧ li = L) ∨ (¬ fsz F = 0 ∧ lf = 10 ∧ li = bh ∧ D li)) := by
  obtain ⟨h1, h2, h3, h4, h5, h6⟩ := h
  obtain ⟨k1, k2⟩ := lst_spec F (τ 6 L) (-1) h2
  rw [← h3] at k1 k2
  by_cases hz : fsz F = 0
  · exact ⟨6, L, Or.inl ⟨k1 hz, rfl, rfl⟩, Or.inl rfl, Or.inl ⟨hz, rfl, rfl⟩⟩
  · have hd := (k2 hz).1
    have := h6 _ hd
    exact ⟨10, bh, Or.inr ⟨this.1, this.2, rfl, rfl⟩, Or.inr rfl, Or.inr ⟨hz, rfl, rfl, hd⟩⟩
/-- what a join leaves alone -/
def jnF (τ τ' : mS) (L z : Int) (D : Int → Prop) : Prop := (∀ f v, 3 ≤ f → f ≤ 7 → ¬ v = L → τ' f v = τ f v) ∧ (τ' 3 L = τ 3 L ∧ τ' 4 L = τ 4 L ∧ τ' 5 L = τ 5 L) ∧ (∀ f x, 8 ≤ f → f ≤ 10 → ¬ x = z → ¬ D x → τ' f x = τ f x) ∧ (∀ f, f ∉ [6, 7, 8, 9, 10, 12] → τ' f = τ f) ∧ (∀ v, ¬ v = 4 → τ' 12 v = τ 12 v)
theorem lb_join {τ : mS} {L bh w z : Int} {F c : FT} {i : tI} {A B D : Int → Prop} (h : lb τ L F bh A B D) (hV : mV τ A B w i c) {lf : Nat} {li : Int} (hlf2 : lf = 6 ∨ lf = 10) (hlf : (fsz F = 0 ∧ lf = 6 ∧ li = L) ∨ (¬ fsz F = 0 ∧ lf = 10 ∧ li = bh ∧ D li)) (hz : z = 170 * 4 + τ 12 4) (hz0 : 0 ≤ z ∧ z < 1740) (hzB : ¬ B z) (hzD : ¬ D z) : lb (mJoin τ 4 L lf li w 0) L (fapp (wk i []) c F) z A B (fun x => D x ∨ x = z) ∧ jnF τ (mJoin τ 4 L lf li w 0) L z D ∧ mJoin τ 4 L lf li w 0 12 4 = τ 12 4 + 1 := by
  obtain ⟨⟨n1, n2, n3, n4⟩, h3, h8, h7, hAL, hDx⟩ := h
  obtain ⟨a1, hN1, hF1⟩ := hV
  obtain ⟨τ2, hτ2⟩ : ∃ τ2, τ2 = mJoin τ 4 L lf li w 0 := ⟨_, rfl⟩
  rw [← hτ2]
  have q8 : ∀ x, τ2 8 x = if x = z then w else τ 8 x := fun x => by rw [hτ2, mJoin_8 (by omega), hz]
  have q9 : ∀ x, τ2 9 x = if x = z then 0 else τ 9 x := fun x => by rw [hτ2, mJoin_9 (by omega), hz]
  have q10 : ∀ x, τ2 10 x = if lf = 10 ∧ x = li then z else if x = z then -1 else τ 10 x := fun x => by rw [hτ2, mJoin_10, hz]
  have q6 : ∀ x, τ2 6 x = if lf = 6 ∧ x = li then z else τ 6 x := fun x => by rw [hτ2, mJoin_6 hlf2, hz]
  have q7 : ∀ x, τ2 7 x = if x = L then τ 7 L + 1 else τ 7 x := fun x => by rw [hτ2, mJoin_7, if_neg (by omega : ¬ (lf = 7 ∧ x = li))]
  have qo : ∀ f, f ∉ [6, 7, 8, 9, 10, 12] → τ2 f = τ f := fun f hf => by rw [hτ2, mJoin_o hlf2 hf]
  have hA3 : ∀ x, ¬ x = L → τ2 3 x = τ 3 x ∧ τ2 4 x = τ 4 x ∧ τ2 5 x = τ 5 x ∧ τ2 6 x = τ 6 x ∧ τ2 7 x = τ 7 x := fun x hx => by
    refine ⟨by rw [qo 3 (by decide)], by rw [qo 4 (by decide)], by rw [qo 5 (by decide)], ?_, ?_⟩
    · rw [q6, if_neg]
      rcases hlf with ⟨-, -, l⟩ | ⟨-, l, -⟩
      · rintro ⟨-, e⟩
        exact hx (e.trans l)
      · omega
    · rw [q7, if_neg hx]
  have hB3 : ∀ x, ¬ x = z → ¬ D x → τ2 8 x = τ 8 x ∧ τ2 9 x = τ 9 x ∧ τ2 10 x = τ 10 x := fun x hx hnd => by
    refine ⟨by rw [q8, if_neg hx], by rw [q9, if_neg hx], ?_⟩
    rw [q10, if_neg, if_neg hx]
    rcases hlf with ⟨-, l, -⟩ | ⟨-, -, -, l⟩
    · omega
    · rintro ⟨-, e⟩
      exact hnd (by rw [e]; exact l)
  have hneA : ∀ x, A x → ¬ x = L := fun x hx e => hAL (by rw [← e]; exact hx)
  have hneB : ∀ x, B x → ¬ x = z ∧ ¬ D x := fun x hx => ⟨fun e => hzB (by rw [← e]; exact hx), fun hd => h7 x hd hx⟩
  have hD3 : ∀ x, D x → τ2 8 x = τ 8 x ∧ τ2 9 x = τ 9 x ∧ (¬ x = lst τ F (τ 6 L) (-1) → τ2 10 x = τ 10 x) := fun x hx => by
    have hxz : ¬ x = z := fun e => hzD (by rw [← e]; exact hx)
    refine ⟨by rw [q8, if_neg hxz], by rw [q9, if_neg hxz], fun hne => ?_⟩
    rw [q10, if_neg, if_neg hxz]
    rcases hlf with ⟨-, l, -⟩ | ⟨-, -, l, -⟩
    · omega
    · rintro ⟨-, e⟩
      exact hne (e.trans (l.trans h8))
  have hlast : ¬ fsz F = 0 → τ2 10 (lst τ F (τ 6 L) (-1)) = z := fun hz => by
    rcases hlf with ⟨l, -⟩ | ⟨-, l1, l2, -⟩
    · exact absurd l hz
    · rw [q10, if_pos ⟨l1, h8.symm.trans l2.symm⟩]
  have e6 : τ2 6 L = if fsz F = 0 then z else τ 6 L := by
    rw [q6]
    rcases hlf with ⟨l1, l2, l3⟩ | ⟨l1, l2, -⟩
    · rw [if_pos ⟨l2, l3.symm⟩, if_pos l1]
    · rw [if_neg (by omega), if_neg l1]
  refine ⟨⟨⟨by rw [qo 3 (by decide)]; exact n1, by rw [qo 4 (by decide)]; exact n2, by rw [qo 5 (by decide)]; exact n3, ?_⟩, ?_, ?_, ?_, hAL, ?_⟩, ⟨?_, ⟨by rw [qo 3 (by decide)], by rw [qo 4 (by decide)], by rw [qo 5 (by decide)]⟩, ?_, qo, ?_⟩, ?_⟩
  · rw [q7, if_pos rfl, n4, fsz_app]
    omega
  · rw [e6]
    refine mFo_app (D' := fun x => D x ∨ x = z) hDx (i := wk i []) (c := c) (z := z) (w := w) (fun x hx => hA3 x (hneA x hx)) (fun x hx => hB3 x (hneB x hx).1 (hneB x hx).2) (fun _ h => h) (fun _ h => h) (fun x hx => Or.inl hx) ⟨Or.inr rfl, by rw [q8, if_pos rfl], by rw [q9, if_pos rfl]; rfl, ?_⟩ ⟨a1, ?_, ?_⟩ F _ (-1) hD3 hlast h3
    · rw [q10, if_neg, if_pos rfl]
      rcases hlf with ⟨-, l, -⟩ | ⟨-, -, -, l⟩
      · omega
      · rintro ⟨-, e⟩
        exact hzD (by rw [e]; exact l)
    · obtain ⟨m1, m2, m3, m4⟩ := hN1
      obtain ⟨x1, x2, x3, x4, x5⟩ := hA3 w (hneA w a1)
      exact ⟨x1.trans m1, x2.trans m2, x3.trans m3, x5.trans m4⟩
    · rw [(hA3 w (hneA w a1)).2.2.2.1]
      exact mF_frame (fun x hx => hA3 x (hneA x hx)) (fun x hx => hB3 x (hneB x hx).1 (hneB x hx).2) c _ hF1
  · rw [e6, lst_app hDx F (τ 6 L) (-1) (fun x hx hne => (hD3 x hx).2.2 hne) hlast h3]
  · intro x hx hb
    rcases hx with hx | rfl
    · exact h7 x hx hb
    · exact hzB hb
  · intro x hx
    rcases hx with hx | rfl
    · exact hDx x hx
    · exact hz0
  · intro f v f1 f2 hv
    obtain ⟨x1, x2, x3, x4, x5⟩ := hA3 v hv
    obtain rfl | rfl | rfl | rfl | rfl : f = 3 ∨ f = 4 ∨ f = 5 ∨ f = 6 ∨ f = 7 := by omega
    · exact x1
    · exact x2
    · exact x3
    · exact x4
    · exact x5
  · intro f x f1 f2 hx hnd
    obtain ⟨x1, x2, x3⟩ := hB3 x hx hnd
    obtain rfl | rfl | rfl : f = 8 ∨ f = 9 ∨ f = 10 := by omega
    · exact x1
    · exact x2
    · exact x3
  · intro v hv
    rw [hτ2, mJoin_12 (by omega), if_neg hv]
  · rw [hτ2, mJoin_12 (by omega), if_pos rfl]
theorem lb_fin {τ : mS} {L bh : Int} {F : FT} {A B D A' B' : Int → Prop} (h : lb τ L F bh A B D) (hA : ∀ v, A v → A' v) (hB : ∀ x, B x → B' x) (hD : ∀ x, D x → B' x) (hL : A' L) : mV τ A' B' L (5, 0, [], []) F := ⟨hL, h.1, mFo_mF hA hB hD F _ h.2.1⟩
