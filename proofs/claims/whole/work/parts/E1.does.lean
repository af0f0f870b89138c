/-! ===== a word's answer ===== -/
def wr32 (x : Int) : Int := (Int32.ofInt x).toInt
theorem wr32_r (x : Int) : mr (wr32 x) := ⟨Int32.le_toInt _, by have := Int32.toInt_lt (Int32.ofInt x); unfold wr32; omega⟩
theorem wr32_e (x : Int) : Int32.ofInt (wr32 x) = Int32.ofInt x := Int32.ofInt_toInt _
/-- what is written down is the number modulo 2^32 -/
theorem ml_mod {h : jx_H} {σ τ : mS} (h1 : ∀ f, ¬ f = 4 → τ f = σ f) (h2 : ∀ i, Int32.ofInt (τ 4 i) = Int32.ofInt (σ 4 i)) : ml_mk h τ = ml_mk h σ := by
  have hf : ∀ f, ml_fv τ f = ml_fv σ f := fun f => by
    by_cases h4 : f = 4
    · subst h4
      rfl
    · unfold ml_fv
      rw [h1 f h4]
  have he : ∀ f, ml_ev τ f = ml_ev σ f := fun f => by
    by_cases h4 : f = 4
    · subst h4
      funext i
      show Value.int (Int32.ofInt (τ 4 i)) = Value.int (Int32.ofInt (σ 4 i))
      rw [h2]
    · unfold ml_ev
      rw [h1 f h4]
  have ha : ∀ f, ml_ar τ f = ml_ar σ f := fun f => by
    unfold ml_ar
    rw [he f]
  unfold ml_mk ml_ce ml_ob
  rw [show ml_fv τ = ml_fv σ from funext hf, show ml_ar τ = ml_ar σ from funext ha]
theorem mNode_mod {h : jx_H} {σ : mS} {z k t : Int} (x : Int) : ml_mk h (mNode σ z k (wr32 x) t) = ml_mk h (mNode σ z k x t) := by
  refine ml_mod (fun f h4 => ?_) fun i => ?_
  · funext v
    by_cases hf : f ∉ [3, 4, 5, 6, 7, 11]
    · rw [mNode_o hf, mNode_o hf]
    · have hf : f ∈ [3, 4, 5, 6, 7, 11] := Classical.not_not.mp hf
      simp only [List.mem_cons, List.mem_nil_iff, or_false] at hf
      rcases hf with rfl | rfl | rfl | rfl | rfl | rfl
      · rw [mNode_3, mNode_3]
      · exact absurd rfl h4
      · rw [mNode_5, mNode_5]
      · rw [mNode_6, mNode_6]
      · rw [mNode_7, mNode_7]
      · rw [mNode_11, mNode_11]
  · rw [mNode_4, mNode_4]
    by_cases hi : i = 170 * z + σ 11 z
    · rw [if_pos hi, if_pos hi]
      exact wr32_e x
    · rw [if_neg hi, if_neg hi]
def doS (w : Int) (s : List Int) (v : vT) : Int × Option vT := if fitS w v.1.1 = true then
    (if w = 8 then (0, some ((4, 0, tyS v.1.1, []), .leaf)) else if w = 0 then (0, some ((3, lenS v.1 v.2, [], []), .leaf)) else if w = 2 then (0, some (lsV (sib v.2))) else if w = 1 then (0, some (lsV (kys v.2)))
      else if w = 4 then (if v.1.1 = 4 then (0, some ((4, 0, v.1.2.2.1.reverse, []), .leaf)) else (0, some (lsV (sib v.2).reverse)))
      else if w = 5 then (if fnum v.2 = true then (0, some ((3, wr32 (ftot 0 v.2), [], []), .leaf)) else (2, none))
      else if fsort s 0 v.2 = -1 then (2, none) else if w = 3 then (0, some (lsV (srt s v.2))) else (0, fbest0 (decide (w = 6)) v.2)) else (1, none)
theorem insR_w (e : eT) : ∀ R : List eT, wS ((insR e R).map fun e => e.2) = 1 + fct e.2.2 + wS (R.map fun e => e.2)
  | [] => by
    show wS [e.2] = 1 + fct e.2.2 + wS []
    rw [wS_cons]
  | x :: R => by
    show wS ((if abv x.1.1 e.1.1 = true then x :: insR e R else e :: x :: R).map fun e => e.2) = _
    by_cases h : abv x.1.1 e.1.1 = true
    · rw [if_pos h, List.map_cons, wS_cons, insR_w e R, List.map_cons, wS_cons]
      omega
    · rw [if_neg h, List.map_cons, wS_cons]
theorem insR_m (e : eT) : ∀ (R : List eT) (y : eT), y ∈ insR e R → y = e ∨ y ∈ R
  | [], y, h => Or.inl (List.mem_singleton.mp h)
  | x :: R, y, h => by
    have h : y ∈ (if abv x.1.1 e.1.1 = true then x :: insR e R else e :: x :: R) := h
    by_cases ha : abv x.1.1 e.1.1 = true
    · rw [if_pos ha] at h
      rcases List.mem_cons.mp h with h | h
      · exact Or.inr (by rw [h]; exact List.mem_cons_self ..)
      · rcases insR_m e R y h with h | h
        · exact Or.inl h
        · exact Or.inr (List.mem_cons_of_mem _ h)
    · rw [if_neg ha] at h
      rcases List.mem_cons.mp h with h | h
      · exact Or.inl h
      · exact Or.inr h
theorem fsd_w (s : List Int) : ∀ (F : FT) (R : List eT), wS ((fsorted s F R).map fun e => e.2) ≤ fct F + wS (R.map fun e => e.2)
  | .leaf, R => by
    show wS (R.map fun e => e.2) ≤ 0 + _
    omega
  | .inner _ i _ c n, R => by
    show wS (List.map (fun e : eT => e.2) (match vrank s i c with | some r => fsorted s n (insR (r, (i, c)) R) | none => fsorted s n R)) ≤ 1 + fct c + fct n + _
    cases vrank s i c with
    | some r =>
      have h1 := fsd_w s n (insR (r, (i, c)) R)
      have h2 := insR_w (r, (i, c)) R
      have h2 : wS ((insR (r, (i, c)) R).map fun e => e.2) = 1 + fct c + wS (R.map fun e => e.2) := h2
      show wS ((fsorted s n (insR (r, (i, c)) R)).map fun e => e.2) ≤ _
      omega
    | none =>
      have h1 := fsd_w s n R
      show wS ((fsorted s n R).map fun e => e.2) ≤ _
      omega
theorem fsd_m (s : List Int) : ∀ (F : FT) (R : List eT) (y : eT), y ∈ fsorted s F R → y.2 ∈ sib F ∨ y ∈ R
  | .leaf, R, y, h => Or.inr h
  | .inner _ i _ c n, R, y, h => by
    have h : y ∈ (match vrank s i c with | some r => fsorted s n (insR (r, (i, c)) R) | none => fsorted s n R) := h
    show y.2 ∈ (i, c) :: sib n ∨ y ∈ R
    cases hv : vrank s i c with
    | some r =>
      rw [hv] at h
      rcases fsd_m s n _ y h with h | h
      · exact Or.inl (List.mem_cons_of_mem _ h)
      · rcases insR_m _ R y h with h | h
        · exact Or.inl (by rw [h]; exact List.mem_cons_self ..)
        · exact Or.inr h
    | none =>
      rw [hv] at h
      rcases fsd_m s n R y h with h | h
      · exact Or.inl (List.mem_cons_of_mem _ h)
      · exact Or.inr h
theorem srt_w (s : List Int) (F : FT) : wS (srt s F) ≤ fct F := by
  unfold srt
  rw [List.map_reverse, wS_rev]
  have := fsd_w s F []
  have h0 : wS (([] : List eT).map fun e => e.2) = 0 := rfl
  omega
theorem srt_m {s : List Int} {F : FT} {v : vT} (h : v ∈ srt s F) : v ∈ sib F := by
  unfold srt at h
  obtain ⟨e, he, rfl⟩ := List.mem_map.mp h
  rcases fsd_m s F [] e (List.mem_reverse.mp he) with h | h
  · exact h
  · exact absurd h List.not_mem_nil
theorem fbest_m (b : Bool) : ∀ (F : FT) (x : vT), fbest b x F = x ∨ fbest b x F ∈ sib F
  | .leaf, x => Or.inl rfl
  | .inner _ i _ c n, x => by
    show fbest b (if (bif b then abv i x.1 else abv x.1 i) = true then (i, c) else x) n = x ∨ fbest b (if (bif b then abv i x.1 else abv x.1 i) = true then (i, c) else x) n ∈ (i, c) :: sib n
    by_cases h : (bif b then abv i x.1 else abv x.1 i) = true
    · rw [if_pos h]
      rcases fbest_m b n (i, c) with h | h
      · exact Or.inr (by rw [h]; exact List.mem_cons_self ..)
      · exact Or.inr (List.mem_cons_of_mem _ h)
    · rw [if_neg h]
      rcases fbest_m b n x with h | h
      · exact Or.inl h
      · exact Or.inr (List.mem_cons_of_mem _ h)
theorem fbest0_m {b : Bool} : ∀ {F : FT} {v : vT}, fbest0 b F = some v → v ∈ sib F
  | .leaf, v, h => by cases h
  | .inner _ i _ c n, v, h => by
    have h : some (fbest b (i, c) n) = some v := h
    have h := Option.some.inj h
    show v ∈ (i, c) :: sib n
    rcases fbest_m b n (i, c) with h2 | h2
    · rw [← h, h2]
      exact List.mem_cons_self ..
    · rw [← h]
      exact List.mem_cons_of_mem _ h2
theorem tyS_tx (k : Int) : tx (tyS k) := by
  unfold tyS
  repeat' split
  all_goals exact ⟨by decide, by decide⟩
theorem kys_w (F : FT) : wS (kys F) = fsz F := by
  unfold kys
  rw [← sib_sz]
  generalize sib F = l
  induction l with
  | nil => rfl
  | cons a l ih =>
    rw [List.map_cons, wS_cons, ih, List.length_cons]
    show 1 + 0 + l.length = l.length + 1
    omega
theorem lsV_ct (l : List vT) : fct (lsV l).2 = wS l := fct_fl l
theorem lenS_r {i : tI} {F : FT} (hi : iok i) (hc : fct F ≤ 390) : mr (lenS i F) := by
  unfold lenS
  have h1 := hi.2.2.2.1.1
  have h2 := fsz_le F
  split
  · exact ⟨by omega, by omega⟩
  · exact ⟨by omega, by omega⟩
theorem doS_ok {w : Int} {s : List Int} {v u : vT} (hv : vok v) (hc : fct v.2 ≤ 390) (h : (doS w s v).2 = some u) : vok u ∧ fct u.2 ≤ fct v.2 := by
  have hls : ∀ l : List vT, (∀ x ∈ l, vok x) → wS l ≤ fct v.2 → some (lsV l) = some u → vok u ∧ fct u.2 ≤ fct v.2 := fun l h1 h2 h3 => by
    rw [← Option.some.inj h3]
    exact ⟨lsV_ok h1, by rw [lsV_ct]; exact h2⟩
  unfold doS at h
  by_cases hf : fitS w v.1.1 = true
  · rw [if_pos hf] at h
    by_cases h8 : w = 8
    · rw [if_pos h8] at h
      have h := Option.some.inj h
      rw [← h]
      exact ⟨⟨iok_t (tyS_tx _), trivial⟩, Nat.zero_le _⟩
    · rw [if_neg h8] at h
      by_cases h0 : w = 0
      · rw [if_pos h0] at h
        have h := Option.some.inj h
        rw [← h]
        exact ⟨⟨iok_n (lenS_r hv.1 hc), trivial⟩, Nat.zero_le _⟩
      · rw [if_neg h0] at h
        by_cases h2 : w = 2
        · rw [if_pos h2] at h
          exact hls _ (sib_ok _ hv.2) (Nat.le_of_eq (wS_sib _)) h
        · rw [if_neg h2] at h
          by_cases h1 : w = 1
          · rw [if_pos h1] at h
            refine hls _ (fun x hx => ?_) (by rw [kys_w]; exact fsz_le _) h
            obtain ⟨y, hy, rfl⟩ := List.mem_map.mp hx
            exact ⟨iok_t (sib_ok _ hv.2 y hy).1.2.2.2.2, trivial⟩
          · rw [if_neg h1] at h
            by_cases h4 : w = 4
            · rw [if_pos h4] at h
              by_cases hk : v.1.1 = 4
              · rw [if_pos hk] at h
                have h := Option.some.inj h
                rw [← h]
                have ht := hv.1.2.2.2.1
                exact ⟨⟨iok_t ⟨by rw [List.length_reverse]; exact ht.1, fun c hc => ht.2 c (List.mem_reverse.mp hc)⟩, trivial⟩, Nat.zero_le _⟩
              · rw [if_neg hk] at h
                exact hls _ (fun x hx => sib_ok _ hv.2 x (List.mem_reverse.mp hx)) (by rw [wS_rev, wS_sib]; exact Nat.le_refl _) h
            · rw [if_neg h4] at h
              by_cases h5 : w = 5
              · rw [if_pos h5] at h
                by_cases hn : fnum v.2 = true
                · rw [if_pos hn] at h
                  have h := Option.some.inj h
                  rw [← h]
                  exact ⟨⟨iok_n (wr32_r _), trivial⟩, Nat.zero_le _⟩
                · rw [if_neg hn] at h
                  cases h
              · rw [if_neg h5] at h
                by_cases hb : fsort s 0 v.2 = -1
                · rw [if_pos hb] at h
                  cases h
                · rw [if_neg hb] at h
                  by_cases h3 : w = 3
                  · rw [if_pos h3] at h
                    exact hls _ (fun x hx => sib_ok _ hv.2 x (srt_m hx)) (srt_w s _) h
                  · rw [if_neg h3] at h
                    have hm := fbest0_m h
                    have := sib_ct _ u hm
                    exact ⟨sib_ok _ hv.2 u hm, by omega⟩
  · rw [if_neg hf] at h
    cases h
