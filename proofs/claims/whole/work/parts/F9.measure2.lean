/-! ===== words, stages and the reader keep values short and flat ===== -/
theorem insR_lw (e : eT) : ∀ R : List eT, lw ((insR e R).map fun e => e.2) = vl e.2 + 1 + lw (R.map fun e => e.2)
  | [] => by
    show lw [e.2] = vl e.2 + 1 + lw []
    rw [lw_cons]
  | x :: R => by
    show lw ((if abv x.1.1 e.1.1 = true then x :: insR e R else e :: x :: R).map fun e => e.2) = _
    by_cases h : abv x.1.1 e.1.1 = true
    · rw [if_pos h, List.map_cons, lw_cons, insR_lw e R, List.map_cons, lw_cons]
      omega
    · rw [if_neg h, List.map_cons, lw_cons]
theorem fsd_lw (s : List Int) : ∀ (F : FT) (R : List eT), lw ((fsorted s F R).map fun e => e.2) ≤ lw (sib F) + lw (R.map fun e => e.2)
  | .leaf, R => by
    show lw (R.map fun e => e.2) ≤ 0 + _
    omega
  | .inner _ i _ c n, R => by
    show lw (List.map (fun e : eT => e.2) (match vrank s i c with | some r => fsorted s n (insR (r, (i, c)) R) | none => fsorted s n R)) ≤ lw ((i, c) :: sib n) + _
    rw [lw_cons]
    cases vrank s i c with
    | some r =>
      have h1 := fsd_lw s n (insR (r, (i, c)) R)
      have h2 : lw ((insR (r, (i, c)) R).map fun e => e.2) = vl (i, c) + 1 + lw (R.map fun e => e.2) := insR_lw (r, (i, c)) R
      show lw ((fsorted s n (insR (r, (i, c)) R)).map fun e => e.2) ≤ _
      omega
    | none =>
      have h1 := fsd_lw s n R
      show lw ((fsorted s n R).map fun e => e.2) ≤ _
      omega
theorem srt_lw (s : List Int) (F : FT) : lw (srt s F) ≤ lw (sib F) := by
  unfold srt
  rw [List.map_reverse, lw_rev]
  have := fsd_lw s F []
  have h0 : lw (([] : List eT).map fun e => e.2) = 0 := rfl
  omega
theorem kys_lw : ∀ F : FT, lw (kys F) ≤ (wF true false F).length
  | .leaf => Nat.le_refl _
  | .inner s i u c n => by
    have ih := kys_lw n
    show lw (((4, 0, i.2.2.2, []), .leaf) :: kys n) ≤ _
    rw [lw_cons, wF_c]
    have h1 := vl_pos (i, c)
    have h2 : vl (((4, 0, i.2.2.2, []), .leaf) : vT) = i.2.2.2.length + 2 := by
      rw [vl_s (by show ¬ (5 : Int) ≤ 4; decide)]
      show (39 :: (i.2.2.2 ++ [39])).length = _
      simp
    rw [h2]
    simp only [cond]
    omega
theorem cn_text (s : List Int) : cnV (((4, 0, s, []), .leaf) : vT) := ⟨⟨fun _ => rfl, fun z => absurd rfl z, fun _ => rfl⟩, trivial⟩
theorem cn_num (x : Int) : cnV (((3, x, [], []), .leaf) : vT) := ⟨⟨fun z => absurd rfl z, fun _ => rfl, fun _ => rfl⟩, trivial⟩
theorem doS_I {w : Int} {s : List Int} {v u : vT} (hk : vok v) (hv : cnV v) (hc : fct v.2 ≤ 390) (h : (doS w s v).2 = some u) : cnV u ∧ fdp u.2 ≤ fdp v.2 ∧ (vl u ≤ vl v ∨ vl u ≤ 12) := by
  have hvu := (doS_ok hk hc h).1
  have hsc : ∀ i : tI, i.1 < 5 → tx i.2.2.1 → vl ((i, .leaf) : vT) ≤ 12 := fun i h ht => by
    rw [vl_s (by omega)]
    exact wL_len ht
  have hls : ∀ l : List vT, 5 ≤ v.1.1 → (∀ x ∈ l, cnV x ∧ 1 + fdp x.2 ≤ fdp v.2) → 2 + (lw l - 1) ≤ vl v → some (lsV l) = some u → cnV u ∧ fdp u.2 ≤ fdp v.2 ∧ (vl u ≤ vl v ∨ vl u ≤ 12) := fun l h5 h1 h2 h3 => by
    rw [← Option.some.inj h3]
    exact ⟨cn_lsV fun x hx => (h1 x hx).1, fdp_fl _ _ fun x hx => (h1 x hx).2, Or.inl (by rw [vl_lsV]; exact h2)⟩
  have hsb : ∀ x ∈ sib v.2, cnV x ∧ 1 + fdp x.2 ≤ fdp v.2 := fun x hx => ⟨cn_sib _ hv.2 x hx, fdp_sib _ x hx⟩
  unfold doS at h
  by_cases hf : fitS w v.1.1 = true
  · have hfd := of_decide_eq_true hf
    rw [if_pos hf] at h
    by_cases h8 : w = 8
    · rw [if_pos h8] at h
      rw [← Option.some.inj h]
      exact ⟨cn_text _, Nat.zero_le _, Or.inr (hsc (4, 0, tyS v.1.1, []) (by show (4 : Int) < 5; decide) (tyS_tx _))⟩
    · rw [if_neg h8] at h
      by_cases h0 : w = 0
      · rw [if_pos h0] at h
        rw [← Option.some.inj h]
        exact ⟨cn_num _, Nat.zero_le _, Or.inr (hsc (3, lenS v.1 v.2, [], []) (by show (3 : Int) < 5; decide) tx_nil)⟩
      · rw [if_neg h0] at h
        by_cases h2 : w = 2
        · have h5 : 5 ≤ v.1.1 := by omega
          rw [if_pos h2] at h
          exact hls _ h5 hsb (vl_ge h5) h
        · rw [if_neg h2] at h
          by_cases h1 : w = 1
          · have h6 : v.1.1 = 6 := by omega
            rw [if_pos h1] at h
            refine hls _ (by omega) (fun x hx => ?_) ?_ h
            · obtain ⟨y, hy, rfl⟩ := List.mem_map.mp hx
              have := hsb y hy
              exact ⟨cn_text _, by show 1 + 0 ≤ _; omega⟩
            · have k1 := kys_lw v.2
              have k2 : vl v = _ := vl_5 (i := v.1) (F := v.2) (by omega)
              have k3 : decide (v.1.1 = 6) = true := decide_eq_true h6
              rw [k3] at k2
              omega
          · rw [if_neg h1] at h
            by_cases h4 : w = 4
            · rw [if_pos h4] at h
              by_cases hk4 : v.1.1 = 4
              · rw [if_pos hk4] at h
                rw [← Option.some.inj h]
                refine ⟨cn_text _, Nat.zero_le _, Or.inr (hsc (4, 0, v.1.2.2.1.reverse, []) (by show (4 : Int) < 5; decide) ?_)⟩
                have ht := hk.1.2.2.2.1
                exact ⟨by show v.1.2.2.1.reverse.length ≤ 7; rw [List.length_reverse]; exact ht.1, fun c hc => ht.2 c (List.mem_reverse.mp hc)⟩
              · rw [if_neg hk4] at h
                have h5 : 5 ≤ v.1.1 := by omega
                refine hls _ h5 (fun x hx => hsb x (List.mem_reverse.mp hx)) ?_ h
                rw [lw_rev]
                exact vl_ge h5
            · rw [if_neg h4] at h
              have h5 : 5 ≤ v.1.1 := by omega
              by_cases h55 : w = 5
              · rw [if_pos h55] at h
                by_cases hn : fnum v.2 = true
                · rw [if_pos hn] at h
                  rw [← Option.some.inj h]
                  exact ⟨cn_num _, Nat.zero_le _, Or.inr (hsc (3, wr32 (ftot 0 v.2), [], []) (by show (3 : Int) < 5; decide) tx_nil)⟩
                · rw [if_neg hn] at h
                  cases h
              · rw [if_neg h55] at h
                by_cases hb : fsort s 0 v.2 = -1
                · rw [if_pos hb] at h
                  cases h
                · rw [if_neg hb] at h
                  by_cases h3 : w = 3
                  · rw [if_pos h3] at h
                    refine hls _ h5 (fun x hx => hsb x (srt_m hx)) ?_ h
                    have k1 := srt_lw s v.2
                    have k2 := vl_ge h5
                    omega
                  · rw [if_neg h3] at h
                    obtain ⟨q1, q2, q3⟩ := sib_I h5 hv (fbest0_m h)
                    exact ⟨q1, q2, Or.inl q3⟩
  · rw [if_neg hf] at h
    cases h
/-- what every value at hand is like -/
def vI (v : vT) : Prop := vok v ∧ cnV v ∧ fdp v.2 ≤ 4 ∧ vl v ≤ 160
theorem vI_ct {v : vT} (h : vI v) : fct v.2 ≤ 79 := by
  have h1 := fct_vl h.2.1
  have h2 := h.2.2.2
  omega
theorem nulV_I : vI nulV := ⟨nulV_ok, ⟨⟨fun _ => rfl, fun _ => rfl, fun _ => rfl⟩, trivial⟩, Nat.zero_le _, by show (1 : Nat) ≤ 160; decide⟩
theorem sgO_e {st : sT} (h : sgO st) : st.1 < 0 → ∀ e ∈ st.2.2, eok1 e := fun hs e he => by
  rcases h with h | h
  · exact stO_ok (h.2.1 e he)
  · have := h.1.1
    omega
theorem stg_I {st : sT} {v : vT} (hv : vI v) (hs : sgO st) : vI (stgV (stg st v)) := by
  have hct := vI_ct hv
  obtain ⟨k1, k2⟩ := stgV_ok hv.1 hct (sgO_e hs)
  unfold stgV at k1 k2 ⊢
  by_cases h0 : (stg st v).1 = 0
  · rw [if_pos h0] at k1 k2 ⊢
    cases hg : (stg st v).2 with
    | none => exact nulV_I
    | some u =>
      rw [hg] at k1
      have k1 : vok u := k1
      show vI u
      unfold stg at hg
      by_cases hn : st.1 < 0
      · rw [if_pos hn] at hg
        have := evT_I 4 160 st.2.2 [] (some v) u (sgO_e hs hn) (fun e h => absurd h List.not_mem_nil) (fun w hw => by cases hw; exact hv.2) hg
        exact ⟨k1, this⟩
      · rw [if_neg hn] at hg
        obtain ⟨q1, q2, q3⟩ := doS_I hv.1 hv.2.1 (by omega) hg
        have h3 := hv.2.2.1
        have h4 := hv.2.2.2
        exact ⟨k1, q1, by omega, by omega⟩
  · rw [if_neg h0]
    exact nulV_I
theorem runS_I : ∀ (l : List sT) (v : vT), (∀ st ∈ l, sgO st) → vI v → vI (runS l v).2
  | [], v, _, hv => hv
  | st :: l, v, hs, hv => by
    have h1 := stg_I hv (hs st (List.mem_cons_self ..))
    show vI (if (stg st v).1 = 0 then runS l (stgV (stg st v)) else ((stg st v).1, nulV)).2
    by_cases h0 : (stg st v).1 = 0
    · rw [if_pos h0]
      exact runS_I l _ (fun st h => hs st (List.mem_cons_of_mem _ h)) h1
    · rw [if_neg h0]
      exact nulV_I
/-! the reader -/
theorem kdg_lt {m : Int} {L : Nat} (h0 : 0 ≤ m) (h1 : m < 10 ^ L) (hL : 1 ≤ L) (hL9 : L ≤ 9) : kdg 9 m + 1 ≤ L := by
  have e := p10m 10 (by decide) L (by omega)
  have hs := kdg_spec 9 m h0 (by show m < 10 ^ 10; omega)
  by_cases hk : 0 < kdg 9 m
  · have h2 := hs.2 hk
    have h9 := kdg_le 9 m
    by_cases hlt : kdg 9 m < L
    · omega
    · have := p10m (kdg 9 m) (by omega) L (by omega)
      omega
  · omega
theorem sNum_len {T : Int → Int} {n p : Int} (ht : tOK T n) (h0 : 0 ≤ p) (hp : p ≤ n) {x q : Int} (h : sNum T n p = .inr (x, q)) : ((dec x).length : Int) ≤ q - p := by
  unfold sNum at h
  obtain ⟨p2, hp2⟩ : ∃ p2, p2 = if tH T n p = 45 then p + 1 else p := ⟨_, rfl⟩
  rw [← hp2] at h
  obtain ⟨r, hr⟩ : ∃ r, r = spn pD T n 7 p2 := ⟨_, rfl⟩
  rw [← hr] at h
  have h4 := spn_le (P := pD) (T := T) (n := n) 7 p2
  rw [← hr] at h4
  split at h
  · cases h
  · split at h
    · cases h
    · rename_i h1 h2
      have hd := dg_b r 0 1 (fun c hc => by rw [hr] at hc; exact spn_dig 7 p2 c hc) (by omega) (by omega)
      have hd3 : dg r < 10 ^ r.length := by
        have : dg r < 1 * 10 ^ r.length := hd.2
        rw [Int.one_mul] at this
        exact this
      have hd1 : 0 ≤ dg r := hd.1
      have hk := kdg_lt hd1 hd3 (by omega) (by omega)
      cases h
      unfold dec
      by_cases h45 : tH T n p = 45
      · rw [if_pos h45] at hp2
        rw [if_pos h45]
        by_cases hz : -dg r < 0
        · rw [if_pos hz, List.length_cons, dgk_len, Int.neg_neg]
          omega
        · have hz0 : dg r = 0 := by omega
          rw [if_neg hz, dgk_len, hz0]
          have : kdg 9 (-0) = 0 := rfl
          rw [this]
          omega
      · rw [if_neg h45] at hp2
        rw [if_neg h45, if_neg (by omega), dgk_len]
        omega
theorem sText_len {T : Int → Int} {n p : Int} {s : List Int} {q : Int} (h : sText T n p = .inr (s, q)) : q = p + s.length + 2 := by
  unfold sText at h
  split at h
  · cases h
  · split at h
    · cases h
      omega
    · cases h
theorem sPlain_I {T : Int → Int} {n p : Int} (ht : tOK T n) (h0 : 0 ≤ p) (hp : p ≤ n) {i : tI} {q : Int} (h : sPlain T n p = .inr (i, q)) : cnI i .leaf ∧ (vl (i, .leaf) : Int) ≤ q - p := by
  obtain ⟨g1, g2, g3, g4, g5⟩ := sPlain_ok ht h0 hp h
  rw [vl_s (by omega)]
  unfold sPlain at h
  split at h
  · cases h
    exact ⟨⟨fun _ => rfl, fun _ => rfl, fun _ => rfl⟩, by show ((1 : Nat) : Int) ≤ _; omega⟩
  split at h
  · cases h
    exact ⟨⟨fun _ => rfl, fun _ => rfl, fun _ => rfl⟩, by show ((1 : Nat) : Int) ≤ _; omega⟩
  split at h
  · cases h
    exact ⟨⟨fun _ => rfl, fun _ => rfl, fun _ => rfl⟩, by show ((1 : Nat) : Int) ≤ _; omega⟩
  split at h
  · cases hx : sNum T n p with
    | inl e => rw [hx] at h; cases h
    | inr y =>
      obtain ⟨x, q2⟩ := y
      rw [hx] at h
      cases h
      exact ⟨⟨fun z => absurd rfl z, fun _ => rfl, fun _ => rfl⟩, sNum_len ht h0 hp hx⟩
  split at h
  · cases hx : sText T n p with
    | inl e => rw [hx] at h; cases h
    | inr y =>
      obtain ⟨s, q2⟩ := y
      rw [hx] at h
      cases h
      have := sText_len hx
      refine ⟨⟨fun _ => rfl, fun z => absurd rfl z, fun _ => rfl⟩, ?_⟩
      show ((39 :: (s ++ [39])).length : Int) ≤ _
      simp
      omega
  · cases h
theorem cn_app {i : tI} {c : FT} (hi : cnI i c) (hc : cnF c) : ∀ F : FT, cnF F → cnF (fapp i c F)
  | .leaf, _ => ⟨hi, hc, trivial⟩
  | .inner s j u e n, h => ⟨h.1, h.2.1, cn_app hi hc n h.2.2⟩
theorem cn_rep {i : tI} {c : FT} (hi : cnI i c) (hc : cnF c) : ∀ F : FT, cnF F → cnF (frep i c F)
  | .leaf, _ => trivial
  | .inner s j u e n, h => by
    show cnF (if j.2.2.2 = i.2.2.2 then .inner s i u c n else .inner s j u e (frep i c n))
    split
    · exact ⟨hi, hc, h.2.2⟩
    · exact ⟨h.1, h.2.1, cn_rep hi hc n h.2.2⟩
theorem dp_app (i : tI) (c : FT) : ∀ F : FT, fdp (fapp i c F) ≤ max (1 + fdp c) (fdp F)
  | .leaf => Nat.le_refl _
  | .inner s j u e n => by
    have ih := dp_app i c n
    show max (1 + fdp e) (fdp (fapp i c n)) ≤ max (1 + fdp c) (max (1 + fdp e) (fdp n))
    omega
theorem dp_rep (i : tI) (c : FT) : ∀ F : FT, fdp (frep i c F) ≤ max (1 + fdp c) (fdp F)
  | .leaf => Nat.zero_le _
  | .inner s j u e n => by
    have ih := dp_rep i c n
    show fdp (if j.2.2.2 = i.2.2.2 then .inner s i u c n else .inner s j u e (frep i c n)) ≤ max (1 + fdp c) (max (1 + fdp e) (fdp n))
    split
    · show max (1 + fdp c) (fdp n) ≤ _
      omega
    · show max (1 + fdp e) (fdp (frep i c n)) ≤ _
      omega
theorem wf_app (ob : Bool) (i : tI) (c : FT) : ∀ F : FT, (wF ob false (fapp i c F)).length = (wF ob false F).length + (1 + (bif ob then i.2.2.2.length + 1 else 0) + vl (i, c))
  | .leaf => by
    show (wF ob false (.inner 0 i () c .leaf)).length = 0 + _
    rw [wF_c]
    show 1 + _ + _ + 0 = _
    omega
  | .inner s j u e n => by
    have ih := wf_app ob i c n
    show (wF ob false (.inner s j u e (fapp i c n))).length = _
    rw [wF_c, wF_c, ih]
    omega
theorem wf_rep (ob : Bool) (i : tI) (c : FT) : ∀ F : FT, (wF ob false (frep i c F)).length ≤ (wF ob false F).length + (1 + (bif ob then i.2.2.2.length + 1 else 0) + vl (i, c))
  | .leaf => Nat.zero_le _
  | .inner s j u e n => by
    have ih := wf_rep ob i c n
    show (wF ob false (if j.2.2.2 = i.2.2.2 then .inner s i u c n else .inner s j u e (frep i c n))).length ≤ _
    split
    · rw [wF_c, wF_c]
      simp only [cond]
      omega
    · rw [wF_c, wF_c]
      omega
theorem put_I (ob : Bool) {i : tI} {c F : FT} (hi : cnI i c) (hc : cnF c) (hF : cnF F) : cnF (fput ob i c F) ∧ fdp (fput ob i c F) ≤ max (1 + fdp c) (fdp F) ∧ (wF ob false (fput ob i c F)).length ≤ (wF ob false F).length + (1 + (bif ob then i.2.2.2.length + 1 else 0) + vl (i, c)) := by
  unfold fput
  split
  · exact ⟨cn_rep hi hc F hF, dp_rep i c F, wf_rep ob i c F⟩
  · exact ⟨cn_app hi hc F hF, dp_app i c F, Nat.le_of_eq (wf_app ob i c F)⟩
theorem sName_len {ob : Bool} {T : Int → Int} {n p : Int} (h0 : 0 ≤ p) (hp : p ≤ n) {s : List Int} {q : Int} (h : sName ob T n p = .inr (s, q)) : q = p + (bif ob then s.length + 1 else 0 : Nat) := by
  unfold sName at h
  cases ob with
  | false =>
    cases h
    simp
  | true =>
    dsimp only [cond] at h
    cases hx : sKey T n p with
    | inl e => rw [hx] at h; cases h
    | inr y =>
      obtain ⟨s2, q2⟩ := y
      rw [hx] at h
      dsimp only at h
      obtain ⟨g1, g2, g3, g4, g5⟩ := sKey_q h0 hp hx
      split at h
      · cases h
        simp only [cond]
        omega
      · cases h
theorem sP_I {T : Int → Int} {n : Int} (ht : tOK T n) : ∀ f : Nat, (∀ (a : Nat) (p : Int), 0 ≤ p → p ≤ n → a ≤ 4 → (∀ i F q, sP T n f (.inl (a, p)) = .inr (i, F, q) → cnI i F ∧ cnF F ∧ fdp F + a ≤ 4 ∧ (vl (i, F) : Int) ≤ q - p)) ∧
    (∀ (ob : Bool) (a : Nat) (F : FT) (p : Int), 0 ≤ p → p ≤ n → a < 4 → fwf F → cnF F → fdp F + a ≤ 4 → (∀ i F' q, sP T n f (.inr (ob, a, F, p)) = .inr (i, F', q) → cnF F' ∧ fdp F' + a ≤ 4 ∧ ((wF ob false F').length : Int) ≤ (wF ob false F).length + (q - p))) := by
  intro f
  induction f with
  | zero => exact ⟨fun a p h0 hp ha i F q h => (by cases h), fun ob a F p h0 hp ha hw hF hd i F' q h => (by cases h)⟩
  | succ f ih =>
    obtain ⟨ihV, ihI⟩ := ih
    refine ⟨fun a p h0 hp ha i F q h => ?_, fun ob a F p h0 hp ha hw hF hd i F' q h => ?_⟩
    · have hh := tH_r (p := p) ht h0
      unfold sP at h
      by_cases hb : tH T n p = 91 ∨ tH T n p = 123
      · have hlt := hh.2.2.2 (by omega)
        rw [if_pos hb] at h
        by_cases ha4 : a = 4
        · rw [if_pos ha4] at h
          cases h
        · rw [if_neg ha4] at h
          obtain ⟨kd, hkd⟩ : ∃ kd : Int, kd = if tH T n p = 91 then 5 else 6 := ⟨_, rfl⟩
          have hkd5 : kd = 5 ∧ tH T n p = 91 ∨ kd = 6 ∧ tH T n p = 123 := by
            rw [hkd]
            split
            · exact Or.inl ⟨rfl, by assumption⟩
            · exact Or.inr ⟨rfl, by omega⟩
          rw [← hkd] at h
          have hcn : ∀ c, cnI (kd, 0, [], []) c := fun c => ⟨fun _ => rfl, fun _ => rfl, fun z => by have z : kd < 5 := z; omega⟩
          have hob : decide (kd = 6) = decide (tH T n p = 123) := by
            rcases hkd5 with ⟨h1, h2⟩ | ⟨h1, h2⟩
            · rw [decide_eq_false (by omega), decide_eq_false (by omega)]
            · rw [decide_eq_true h1, decide_eq_true h2]
          by_cases hc : tH T n (p + 1) = (if tH T n p = 91 then 93 else 125)
          · rw [if_pos hc] at h
            cases h
            refine ⟨hcn _, trivial, by show 0 + a ≤ 4; omega, ?_⟩
            rw [vl_5 (by show 5 ≤ kd; omega)]
            show ((2 + (0 - 1) : Nat) : Int) ≤ _
            omega
          · rw [if_neg hc] at h
            have k1 := ihI (decide (tH T n p = 123)) a .leaf (p + 1) (by omega) (by omega) (by omega) trivial trivial (by show 0 + a ≤ 4; omega)
            have ok := (sP_ok ht f).2 (decide (tH T n p = 123)) a .leaf (p + 1) (by omega) (by omega) trivial
            cases hx : sP T n f (.inr (decide (tH T n p = 123), a, .leaf, p + 1)) with
            | inl e2 => rw [hx] at h; cases h
            | inr y =>
              obtain ⟨i2, F2, q2⟩ := y
              rw [hx] at h
              obtain ⟨g1, g2, g3⟩ := k1 i2 F2 q2 hx
              have o1 := (ok.1 i2 F2 q2 hx).1
              have g3 : ((wF (decide (tH T n p = 123)) false F2).length : Int) ≤ ((0 : Nat) : Int) + (q2 - (p + 1)) := g3
              cases h
              refine ⟨hcn _, g1, g2, ?_⟩
              rw [vl_5 (by show 5 ≤ kd; omega)]
              show ((2 + ((wF (decide (kd = 6)) false F).length - 1) : Nat) : Int) ≤ _
              rw [hob]
              omega
      · rw [if_neg hb] at h
        cases hx : sPlain T n p with
        | inl e2 => rw [hx] at h; cases h
        | inr y =>
          obtain ⟨i2, q2⟩ := y
          rw [hx] at h
          cases h
          obtain ⟨g1, g2⟩ := sPlain_I ht h0 hp hx
          exact ⟨g1, trivial, by show 0 + a ≤ 4; omega, g2⟩
    · unfold sP at h
      cases hn : sName ob T n p with
      | inl e2 => rw [hn] at h; cases h
      | inr y =>
        obtain ⟨s, p1⟩ := y
        obtain ⟨g1, g2, g3⟩ := sName_ok ht h0 hp hn
        have g4 := sName_len h0 hp hn
        rw [hn] at h
        dsimp only at h
        have k1 := ihV (a + 1) p1 (by omega) g2 (by omega)
        have ok := (sP_ok ht f).1 (a + 1) p1 (by omega) g2
        cases hx : sP T n f (.inl (a + 1, p1)) with
        | inl e2 => rw [hx] at h; cases h
        | inr y =>
          obtain ⟨j, c, q2⟩ := y
          obtain ⟨m1, m2, m3, m4, m5, m6⟩ := ok.1 j c q2 hx
          obtain ⟨v1, v2, v3, v4⟩ := k1 j c q2 hx
          rw [hx] at h
          dsimp only at h
          have hjk : cnI (wk j s) c := v1
          have hik : iok (wk j s) := ⟨m3.1, m3.2.1, m3.2.2.1, m3.2.2.2.1, g3⟩
          have hF2 : fwf (fput ob (wk j s) c F) := fwf_put hik m5 hw
          obtain ⟨p1', p2', p3'⟩ := put_I ob (F := F) hjk v2 hF
          have hkey : (wk j s).2.2.2 = s := rfl
          have hvl : vl (wk j s, c) = vl (j, c) := rfl
          rw [hkey, hvl] at p3'
          have h2 := tH_r (p := q2) ht (by omega)
          have hmx : fdp (fput ob (wk j s) c F) + a ≤ 4 := by omega
          by_cases h44 : tH T n q2 = 44
          · rw [if_pos h44] at h
            have hlt := h2.2.2.2 (by omega)
            obtain ⟨w1, w2, w3⟩ := ihI ob a (fput ob (wk j s) c F) (q2 + 1) (by omega) (by omega) ha hF2 p1' hmx i F' q h
            exact ⟨w1, w2, by omega⟩
          · rw [if_neg h44] at h
            by_cases hcl : tH T n q2 = (if ob = true then 125 else 93)
            · rw [if_pos hcl] at h
              cases h
              exact ⟨p1', hmx, by omega⟩
            · rw [if_neg hcl] at h
              cases h
theorem sLoad_I {T : Int → Int} {n : Int} (ht : tOK T n) {i : tI} {F : FT} (h : sLoad T n = .inr (i, F)) : vI (i, F) := by
  obtain ⟨a1, a2, a3, a4⟩ := sLoad_ok ht h
  unfold sLoad at h
  cases hx : sP T n 400 (.inl (0, 0)) with
  | inl e => rw [hx] at h; cases h
  | inr y =>
    obtain ⟨i2, F2, q⟩ := y
    rw [hx] at h
    dsimp only at h
    have k := (sP_I ht 400).1 0 0 (by omega) ht.1 (by decide) i2 F2 q hx
    have ok := ((sP_ok ht 400).1 0 0 (by omega) ht.1).1 i2 F2 q hx
    split at h
    · cases h
    · cases h
      obtain ⟨k1, k2, k3, k4⟩ := k
      have hq := ok.2.1
      have h160 := ht.2.1
      exact ⟨⟨a1, a3⟩, ⟨k1, k2⟩, by show fdp F ≤ 4; omega, by omega⟩
