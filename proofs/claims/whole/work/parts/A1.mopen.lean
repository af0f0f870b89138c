/-! ===== a row of cells that grows ===== -/
/-- as mF, but its own cells are among D -/
def mFo (σ : mS) (A B D : Int → Prop) : FT → Int → Prop
  | .leaf, x => x = -1
  | .inner _ i _ c n, x => D x ∧ A (σ 8 x) ∧ σ 9 x = pk i.2.2.2 ∧ mN σ (σ 8 x) i (fsz c) ∧ mF σ A B c (σ 6 (σ 8 x)) ∧ mFo σ A B D n (σ 10 x)
def lst (σ : mS) : FT → Int → Int → Int
  | .leaf, _, y => y
  | .inner _ _ _ _ n, x, _ => lst σ n (σ 10 x) x
def fapp (i : tI) (c : FT) : FT → FT
  | .leaf => .inner 0 i () c .leaf
  | .inner s j u e n => .inner s j u e (fapp i c n)
def frep (i : tI) (c : FT) : FT → FT
  | .leaf => .leaf
  | .inner s j u e n => if j.2.2.2 = i.2.2.2 then .inner s i u c n else .inner s j u e (frep i c n)
/-- put a value under its key into an object, or at the end of a list -/
def fput (ob : Bool) (i : tI) (c : FT) (F : FT) : FT := if ob = true ∧ (fget i.2.2.2 F).isSome = true then frep i c F else fapp i c F
theorem fsz_app (i : tI) (c : FT) : ∀ F : FT, fsz (fapp i c F) = fsz F + 1
  | .leaf => rfl
  | .inner s j u e n => by
    show fsz (fapp i c n) + 1 = fsz n + 1 + 1
    rw [fsz_app i c n]
theorem fsz_rep (i : tI) (c : FT) : ∀ F : FT, fsz (frep i c F) = fsz F
  | .leaf => rfl
  | .inner s j u e n => by
    unfold frep
    split
    · rfl
    · show fsz (frep i c n) + 1 = fsz n + 1
      rw [fsz_rep i c n]
theorem fct_app (i : tI) (c : FT) : ∀ F : FT, fct (fapp i c F) = fct F + (1 + fct c)
  | .leaf => by
    show 1 + fct c + 0 = 0 + (1 + fct c)
    omega
  | .inner s j u e n => by
    show 1 + fct e + fct (fapp i c n) = 1 + fct e + fct n + (1 + fct c)
    rw [fct_app i c n]
    omega
theorem fct_rep (i : tI) (c : FT) : ∀ F : FT, fct (frep i c F) ≤ fct F + fct c
  | .leaf => Nat.zero_le _
  | .inner s j u e n => by
    unfold frep
    split
    · show 1 + fct c + fct n ≤ 1 + fct e + fct n + fct c
      omega
    · have := fct_rep i c n
      show 1 + fct e + fct (frep i c n) ≤ 1 + fct e + fct n + fct c
      omega
theorem fct_put (ob : Bool) (i : tI) (c F : FT) : fct (fput ob i c F) ≤ fct F + (1 + fct c) := by
  unfold fput
  split
  · have := fct_rep i c F
    omega
  · rw [fct_app]
    exact Nat.le_refl _
theorem fwf_app {i : tI} {c : FT} (hi : iok i) (hc : fwf c) : ∀ F : FT, fwf F → fwf (fapp i c F)
  | .leaf, _ => ⟨hi, hc, trivial⟩
  | .inner s j u e n, h => ⟨h.1, h.2.1, fwf_app hi hc n h.2.2⟩
theorem fwf_rep {i : tI} {c : FT} (hi : iok i) (hc : fwf c) : ∀ F : FT, fwf F → fwf (frep i c F)
  | .leaf, _ => trivial
  | .inner s j u e n, h => by
    unfold frep
    split
    · exact ⟨hi, hc, h.2.2⟩
    · exact ⟨h.1, h.2.1, fwf_rep hi hc n h.2.2⟩
theorem fwf_put {ob : Bool} {i : tI} {c F : FT} (hi : iok i) (hc : fwf c) (hF : fwf F) : fwf (fput ob i c F) := by
  unfold fput
  split
  · exact fwf_rep hi hc F hF
  · exact fwf_app hi hc F hF
section MOP
variable {σ τ : mS} {A B D A' B' D' : Int → Prop}
theorem mFo_mF (hA : ∀ v, A v → A' v) (hB : ∀ x, B x → B' x) (hD : ∀ x, D x → B' x) : ∀ (F : FT) (x : Int), mFo σ A B D F x → mF σ A' B' F x
  | .leaf, _, h => h
  | .inner _ _ _ c n, _, h => ⟨hD _ h.1, hA _ h.2.1, h.2.2.1, h.2.2.2.1, mF_mono hA hB c _ h.2.2.2.2.1, mFo_mF hA hB hD n _ h.2.2.2.2.2⟩
theorem mFo_frame (hA : ∀ v, A v → τ 3 v = σ 3 v ∧ τ 4 v = σ 4 v ∧ τ 5 v = σ 5 v ∧ τ 6 v = σ 6 v ∧ τ 7 v = σ 7 v) (hB : ∀ x, B x → τ 8 x = σ 8 x ∧ τ 9 x = σ 9 x ∧ τ 10 x = σ 10 x) (hD : ∀ x, D x → τ 8 x = σ 8 x ∧ τ 9 x = σ 9 x ∧ τ 10 x = σ 10 x) (iA : ∀ v, A v → A' v) (iB : ∀ x, B x → B' x) (iD : ∀ x, D x → D' x) : ∀ (F : FT) (x : Int), mFo σ A B D F x → mFo τ A' B' D' F x
  | .leaf, _, h => h
  | .inner _ i _ c n, x, h => by
    obtain ⟨h1, h2, h3, ⟨n1, n2, n3, n4⟩, h5, h6⟩ := h
    obtain ⟨b1, b2, b3⟩ := hD x h1
    obtain ⟨a1, a2, a3, a4, a5⟩ := hA _ h2
    refine ⟨iD _ h1, by rw [b1]; exact iA _ h2, by rw [b2]; exact h3, ?_, ?_, ?_⟩
    · rw [b1]
      exact ⟨a1.trans n1, a2.trans n2, a3.trans n3, a5.trans n4⟩
    · rw [b1, a4]
      exact mF_mono iA iB c _ (mF_frame hA hB c _ h5)
    · rw [b3]
      exact mFo_frame hA hB hD iA iB iD n _ h6
theorem mFo_sz (hD : mIx D) : ∀ (F F' : FT) (x : Int), mFo σ A B D F x → mFo σ A B D F' x → fsz F = fsz F'
  | .leaf, .leaf, _, _, _ => rfl
  | .leaf, .inner _ _ _ _ _, x, h, h' => by
    have h : x = -1 := h
    have := hD x h'.1
    omega
  | .inner _ _ _ _ _, .leaf, x, h, h' => by
    have h' : x = -1 := h'
    have := hD x h.1
    omega
  | .inner _ _ _ _ n, .inner _ _ _ _ n', x, h, h' => by
    show fsz n + 1 = fsz n' + 1
    rw [mFo_sz hD n n' _ h.2.2.2.2.2 h'.2.2.2.2.2]
/-- the last cell: it is one of the row's own, nothing follows it -/
theorem lst_spec : ∀ (F : FT) (x y : Int), mFo σ A B D F x → (fsz F = 0 → lst σ F x y = y) ∧ (¬ fsz F = 0 → D (lst σ F x y) ∧ σ 10 (lst σ F x y) = -1)
  | .leaf, _, _, _ => ⟨fun _ => rfl, fun h => absurd rfl h⟩
  | .inner _ i _ c n, x, y, h => by
    refine ⟨fun hz => absurd hz (by show ¬ fsz n + 1 = 0; omega), fun _ => ?_⟩
    obtain ⟨k1, k2⟩ := lst_spec n (σ 10 x) x h.2.2.2.2.2
    show D (lst σ n (σ 10 x) x) ∧ σ 10 (lst σ n (σ 10 x) x) = -1
    by_cases hz : fsz n = 0
    · rw [k1 hz]
      refine ⟨h.1, ?_⟩
      cases n with
      | leaf => exact h.2.2.2.2.2
      | inner s j u e m => exact absurd hz (by show ¬ fsz m + 1 = 0; omega)
    · exact k2 hz
/-- one more at the end -/
theorem mFo_app (hDx : mIx D) {i : tI} {c : FT} {z w : Int} (hA : ∀ v, A v → τ 3 v = σ 3 v ∧ τ 4 v = σ 4 v ∧ τ 5 v = σ 5 v ∧ τ 6 v = σ 6 v ∧ τ 7 v = σ 7 v) (hB : ∀ x, B x → τ 8 x = σ 8 x ∧ τ 9 x = σ 9 x ∧ τ 10 x = σ 10 x) (iA : ∀ v, A v → A' v) (iB : ∀ x, B x → B' x) (iD : ∀ x, D x → D' x) (hz : D' z ∧ τ 8 z = w ∧ τ 9 z = pk i.2.2.2 ∧ τ 10 z = -1) (hw : A' w ∧ mN τ w i (fsz c) ∧ mF τ A' B' c (τ 6 w)) : ∀ (F : FT) (x y : Int), (∀ v, D v → τ 8 v = σ 8 v ∧ τ 9 v = σ 9 v ∧ (¬ v = lst σ F x y → τ 10 v = σ 10 v)) → (¬ fsz F = 0 → τ 10 (lst σ F x y) = z) → mFo σ A B D F x → mFo τ A' B' D' (fapp i c F) (if fsz F = 0 then z else x)
  | .leaf, x, y, _, _, _ => by
    rw [if_pos (show fsz .leaf = 0 from rfl)]
    refine ⟨hz.1, by rw [hz.2.1]; exact hw.1, hz.2.2.1, by rw [hz.2.1]; exact hw.2.1, by rw [hz.2.1]; exact hw.2.2, hz.2.2.2⟩
  | .inner s j u e n, x, y, hD, hl, h => by
    rw [if_neg (by show ¬ fsz n + 1 = 0; omega)]
    obtain ⟨h1, h2, h3, ⟨n1, n2, n3, n4⟩, h5, h6⟩ := h
    obtain ⟨b1, b2, b3⟩ := hD x h1
    obtain ⟨a1, a2, a3, a4, a5⟩ := hA _ h2
    have hl : τ 10 (lst σ n (σ 10 x) x) = z := hl (by show ¬ fsz n + 1 = 0; omega)
    have key := mFo_app hDx hA hB iA iB iD hz hw n (σ 10 x) x hD (fun _ => hl) h6
    refine ⟨iD _ h1, by rw [b1]; exact iA _ h2, by rw [b2]; exact h3, ?_, ?_, ?_⟩
    · rw [b1]
      exact ⟨a1.trans n1, a2.trans n2, a3.trans n3, a5.trans n4⟩
    · rw [b1, a4]
      exact mF_mono iA iB e _ (mF_frame hA hB e _ h5)
    · obtain ⟨k1, k2⟩ := lst_spec n (σ 10 x) x h6
      by_cases hz0 : fsz n = 0
      · rw [if_pos hz0] at key
        rw [k1 hz0] at hl
        rw [hl]
        exact key
      · rw [if_neg hz0] at key
        have hne : ¬ x = lst σ n (σ 10 x) x := by
          intro e1
          have e2 := (k2 hz0).2
          rw [← e1] at e2
          cases n with
          | leaf => exact hz0 rfl
          | inner s j u e m =>
            have := hDx _ h6.1
            omega
        rw [b3 hne]
        exact key
/-- the cell of the first one with this key -/
def atk (σ : mS) (s : List Int) : FT → Int → Int → Prop
  | .leaf, _, _ => False
  | .inner _ i _ _ n, x, y => (i.2.2.2 = s ∧ y = x) ∨ (¬ i.2.2.2 = s ∧ atk σ s n (σ 10 x) y)
theorem atk_sz {s : List Int} : ∀ (F : FT) (x y : Int), mFo σ A B D F x → atk σ s F x y → D y ∧ ∃ F' : FT, mFo σ A B D F' y ∧ fsz F' ≤ fsz F
  | .leaf, _, _, _, h => absurd h id
  | .inner s0 i u0 c n, x, y, hm, h => by
    rcases h with ⟨-, rfl⟩ | ⟨-, h⟩
    · exact ⟨hm.1, _, hm, Nat.le_refl _⟩
    · obtain ⟨k0, F', k1, k2⟩ := atk_sz n (σ 10 x) y hm.2.2.2.2.2 h
      exact ⟨k0, F', k1, Nat.le_succ_of_le k2⟩
/-- a cell that is none of a shorter row's -/
theorem mFo_8 (hDx : mIx D) {y : Int} {Fy : FT} (hy : mFo σ A B D Fy y) (hA : ∀ v, A v → τ 3 v = σ 3 v ∧ τ 4 v = σ 4 v ∧ τ 5 v = σ 5 v ∧ τ 6 v = σ 6 v ∧ τ 7 v = σ 7 v) (hB : ∀ x, B x → τ 8 x = σ 8 x ∧ τ 9 x = σ 9 x ∧ τ 10 x = σ 10 x) (hD : ∀ x, D x → (¬ x = y → τ 8 x = σ 8 x) ∧ τ 9 x = σ 9 x ∧ τ 10 x = σ 10 x) (iA : ∀ v, A v → A' v) (iB : ∀ x, B x → B' x) : ∀ (F : FT) (x : Int), fsz F < fsz Fy → mFo σ A B D F x → mFo τ A' B' D F x
  | .leaf, _, _, h => h
  | .inner s0 i u0 c n, x, hs, h => by
    have hne : ¬ x = y := by
      intro e
      subst e
      have := mFo_sz hDx _ _ x h hy
      omega
    have hs : fsz n + 1 < fsz Fy := hs
    obtain ⟨h1, h2, h3, ⟨n1, n2, n3, n4⟩, h5, h6⟩ := h
    obtain ⟨b1, b2, b3⟩ := hD x h1
    have b1 := b1 hne
    obtain ⟨a1, a2, a3, a4, a5⟩ := hA _ h2
    refine ⟨h1, by rw [b1]; exact iA _ h2, by rw [b2]; exact h3, ?_, ?_, ?_⟩
    · rw [b1]
      exact ⟨a1.trans n1, a2.trans n2, a3.trans n3, a5.trans n4⟩
    · rw [b1, a4]
      exact mF_mono iA iB c _ (mF_frame hA hB c _ h5)
    · rw [b3]
      exact mFo_8 hDx hy hA hB hD iA iB n _ (by omega) h6
/-- another value under a key that is there -/
theorem mFo_rep (hDx : mIx D) {i : tI} {c : FT} {w y : Int} (hA : ∀ v, A v → τ 3 v = σ 3 v ∧ τ 4 v = σ 4 v ∧ τ 5 v = σ 5 v ∧ τ 6 v = σ 6 v ∧ τ 7 v = σ 7 v) (hB : ∀ x, B x → τ 8 x = σ 8 x ∧ τ 9 x = σ 9 x ∧ τ 10 x = σ 10 x) (hD : ∀ x, D x → (¬ x = y → τ 8 x = σ 8 x) ∧ τ 9 x = σ 9 x ∧ τ 10 x = σ 10 x) (iA : ∀ v, A v → A' v) (iB : ∀ x, B x → B' x) (h8 : τ 8 y = w) (hw : A' w ∧ mN τ w i (fsz c) ∧ mF τ A' B' c (τ 6 w)) : ∀ (F : FT) (x : Int), mFo σ A B D F x → atk σ i.2.2.2 F x y → mFo τ A' B' D (frep i c F) x
  | .leaf, _, _, h => absurd h id
  | .inner s0 j u0 e n, x, hm, h => by
    unfold frep
    rcases h with ⟨hk, rfl⟩ | ⟨hk, h⟩
    · rw [if_pos hk]
      obtain ⟨h1, h2, h3, hN, h5, h6⟩ := hm
      obtain ⟨b1, b2, b3⟩ := hD y h1
      refine ⟨h1, by rw [h8]; exact hw.1, by rw [b2, h3, hk], by rw [h8]; exact hw.2.1, by rw [h8]; exact hw.2.2, ?_⟩
      rw [b3]
      exact mFo_8 hDx (Fy := .inner s0 j u0 e n) ⟨h1, h2, h3, hN, h5, h6⟩ hA hB hD iA iB n _ (Nat.lt_succ_self _) h6
    · rw [if_neg hk]
      obtain ⟨h1, h2, h3, ⟨n1, n2, n3, n4⟩, h5, h6⟩ := hm
      obtain ⟨-, F', k1, k2⟩ := atk_sz n (σ 10 x) y h6 h
      have hne : ¬ x = y := by
        intro e1
        subst e1
        have := mFo_sz hDx _ (.inner s0 j u0 e n) x k1 ⟨h1, h2, h3, ⟨n1, n2, n3, n4⟩, h5, h6⟩
        have e2 : fsz (.inner s0 j u0 e n) = fsz n + 1 := rfl
        omega
      obtain ⟨b1, b2, b3⟩ := hD x h1
      have b1 := b1 hne
      obtain ⟨a1, a2, a3, a4, a5⟩ := hA _ h2
      refine ⟨h1, by rw [b1]; exact iA _ h2, by rw [b2]; exact h3, ?_, ?_, ?_⟩
      · rw [b1]
        exact ⟨a1.trans n1, a2.trans n2, a3.trans n3, a5.trans n4⟩
      · rw [b1, a4]
        exact mF_mono iA iB e _ (mF_frame hA hB e _ h5)
      · rw [b3]
        exact mFo_rep hDx hA hB hD iA iB h8 hw n _ h6 h
end MOP
