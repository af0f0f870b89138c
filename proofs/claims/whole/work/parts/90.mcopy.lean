/-! ===== the model copies a tree (printed by program: gen19.py) ===== -/
def mJoin (σ : mS) (z to : Int) (lf : Nat) (li w t : Int) : mS := (su (su (su (su (su (su σ 12 (z) (σ 12 (z) + 1)) 8 (170 * z + (σ 12 (z))) (w)) 9 (170 * z + (σ 12 (z))) (t)) 10 (170 * z + (σ 12 (z))) (-1)) lf li (170 * z + (σ 12 (z)))) 7 (to) (σ 7 (to) + 1))
/-- where the link to the next cell is laid -/
def mLk (bh to : Int) (lf : Nat) (li : Int) : Prop := (bh = -1 ∧ lf = 6 ∧ li = to) ∨ (0 ≤ bh ∧ bh < 1740 ∧ lf = 10 ∧ li = bh)
theorem jn_nodeM {β : Bool} {d : Nat} {h : jx_H} {σ : mS} (hl : 49 ≤ h.length) {z k n t m : Int} (hz : 0 ≤ z ∧ z < 5) (hn : σ 11 z = m) (h0 : 0 ≤ m) (h1 : 170 * z + m < 1740) : jx_r (jz β) jw_M d 208 (0, [some (.ref 15), some (.int (Int32.ofInt z)), some (.int (Int32.ofInt k)), some (.int (Int32.ofInt n)), some (.long (Int64.ofInt t)), none, none], [], ml_mk h σ) (ml_mk h (mNode σ z k n t), .inl (some (.int (Int32.ofInt (170 * z + m))))) := by
  rw [← hn]
  exact jn_node hl hz ⟨by omega, by omega⟩
theorem jn_joinM {β : Bool} {d : Nat} {h : jx_H} {σ : mS} (hl : 49 ≤ h.length) {z to bh w t m li : Int} {lf : Nat} (hz : 0 ≤ z ∧ z < 5) (hn : σ 12 z = m) (h0 : 0 ≤ m) (h1 : 170 * z + m < 1740) (ht : 0 ≤ to ∧ to < 1740) (hk : mLk bh to lf li) : jx_r (jz β) jw_M d 229 (0, [some (.ref 15), some (.int (Int32.ofInt z)), some (.int (Int32.ofInt to)), some (.int (Int32.ofInt bh)), some (.int (Int32.ofInt w)), some (.long (Int64.ofInt t)), none, none], [], ml_mk h σ) (ml_mk h (mJoin σ z to lf li w t), .inl (some (.int (Int32.ofInt (170 * z + m))))) := by
  rw [← hn]
  rcases hk with ⟨h2, rfl, rfl⟩ | ⟨h2, h3, rfl, rfl⟩
  · exact jn_join0 hl hz ⟨by omega, by omega⟩ ht h2
  · exact jn_join1 hl hz ⟨by omega, by omega⟩ ht ⟨h2, h3⟩
section MRow
variable {σ : mS} {z k n t v w to li : Int} {lf : Nat}
theorem mNode_3 : mNode σ z k n t 3 v = if v = 170 * z + σ 11 z then k else σ 3 v := by simp [mNode, su]
theorem mNode_4 : mNode σ z k n t 4 v = if v = 170 * z + σ 11 z then n else σ 4 v := by simp [mNode, su]
theorem mNode_5 : mNode σ z k n t 5 v = if v = 170 * z + σ 11 z then t else σ 5 v := by simp [mNode, su]
theorem mNode_6 : mNode σ z k n t 6 v = if v = 170 * z + σ 11 z then -1 else σ 6 v := by simp [mNode, su]
theorem mNode_7 : mNode σ z k n t 7 v = if v = 170 * z + σ 11 z then 0 else σ 7 v := by simp [mNode, su]
theorem mNode_11 : mNode σ z k n t 11 v = if v = z then σ 11 z + 1 else σ 11 v := by simp [mNode, su]
theorem mNode_o {f : Nat} (hf : f ∉ [3, 4, 5, 6, 7, 11]) : mNode σ z k n t f = σ f := by
  simp only [List.mem_cons, List.mem_nil_iff, or_false, not_or] at hf
  obtain ⟨h3, h4, h5, h6, h7, h11⟩ := hf
  unfold mNode
  rw [su_row h7, su_row h6, su_row h5, su_row h4, su_row h3, su_row h11]
theorem mJoin_8 (hl : ¬ lf = 8) : mJoin σ z to lf li w t 8 v = if v = 170 * z + σ 12 z then w else σ 8 v := by
  unfold mJoin
  rw [su_nf (by decide), su_nf (fun e => hl e.symm)]
  simp [su]
theorem mJoin_9 (hl : ¬ lf = 9) : mJoin σ z to lf li w t 9 v = if v = 170 * z + σ 12 z then t else σ 9 v := by
  unfold mJoin
  rw [su_nf (by decide), su_nf (fun e => hl e.symm)]
  simp [su]
theorem mJoin_10 : mJoin σ z to lf li w t 10 v = if lf = 10 ∧ v = li then 170 * z + σ 12 z else if v = 170 * z + σ 12 z then -1 else σ 10 v := by
  unfold mJoin
  rw [su_nf (by decide)]
  by_cases hc : lf = 10 ∧ v = li
  · rw [if_pos hc]
    unfold su
    rw [if_pos ⟨hc.1.symm, hc.2⟩]
  · rw [if_neg hc, (show su _ lf li _ 10 v = _ from if_neg (fun e => hc ⟨e.1.symm, e.2⟩))]
    simp [su]
theorem mJoin_6 (hl : lf = 6 ∨ lf = 10) : mJoin σ z to lf li w t 6 v = if lf = 6 ∧ v = li then 170 * z + σ 12 z else σ 6 v := by
  unfold mJoin
  rw [su_nf (by decide)]
  by_cases hc : lf = 6 ∧ v = li
  · rw [if_pos hc]
    unfold su
    rw [if_pos ⟨hc.1.symm, hc.2⟩]
  · rw [if_neg hc, (show su _ lf li _ 6 v = _ from if_neg (fun e => hc ⟨e.1.symm, e.2⟩))]
    simp [su]
theorem mJoin_7 : mJoin σ z to lf li w t 7 v = if v = to then σ 7 to + 1 else (if lf = 7 ∧ v = li then 170 * z + σ 12 z else σ 7 v) := by
  unfold mJoin
  by_cases hv : v = to
  · subst hv
    rw [su_eq, if_pos rfl]
  · rw [su_ni hv, if_neg hv]
    by_cases hc : lf = 7 ∧ v = li
    · rw [if_pos hc]
      unfold su
      rw [if_pos ⟨hc.1.symm, hc.2⟩]
    · rw [if_neg hc, (show su _ lf li _ 7 v = _ from if_neg (fun e => hc ⟨e.1.symm, e.2⟩))]
      simp [su]
theorem mJoin_12 (hl : ¬ lf = 12) : mJoin σ z to lf li w t 12 v = if v = z then σ 12 z + 1 else σ 12 v := by
  unfold mJoin
  rw [su_nf (by decide), su_nf (fun e => hl e.symm)]
  simp [su]
theorem mJoin_o {f : Nat} (hl : lf = 6 ∨ lf = 10) (hf : f ∉ [6, 7, 8, 9, 10, 12]) : mJoin σ z to lf li w t f = σ f := by
  simp only [List.mem_cons, List.mem_nil_iff, or_false, not_or] at hf
  obtain ⟨h6, h7, h8, h9, h10, h12⟩ := hf
  unfold mJoin
  rw [su_row h7, su_row (by rcases hl with rfl | rfl <;> assumption), su_row h10, su_row h9, su_row h8, su_row h12]
end MRow
def Zn (z v : Int) : Prop := 170 * z ≤ v ∧ v < 170 * z + 170
def cpI (τ : mS) (v : Int) (i : tI) : Prop := τ 3 v = i.1 ∧ τ 4 v = i.2.1 ∧ τ 5 v = pk i.2.2.1
/-- what stands all the time while a tree is copied: q are the entries, m how many -/
def cpS (σ τ : mS) (A B : Int → Prop) (z : Int) (q : Int → tI × FT) (m : Int) : Prop :=
  τ 11 z = m ∧ τ 12 z = m - 1 ∧ (∀ j, 0 ≤ j → j < m → cpI τ (170 * z + j) (q j).1 ∧ mV σ A B (τ 43 j) (q j).1 (q j).2 ∧ τ 44 j = 170 * z + j) ∧
  (∀ j, 1 ≤ j → j < m → τ 8 (170 * z + j - 1) = 170 * z + j ∧ τ 9 (170 * z + j - 1) = pk (q j).1.2.2.2) ∧
  (∀ f v, ¬ Zn z v → 3 ≤ f → f ≤ 10 → τ f v = σ f v) ∧ (∀ v, ¬ v = z → τ 11 v = σ 11 v ∧ τ 12 v = σ 12 v) ∧ (∀ f, f < 3 ∨ 12 < f → ¬ f = 43 → ¬ f = 44 → τ f = σ f)
def sibAt (q : Int → tI × FT) : FT → Int → Prop
  | .leaf, _ => True
  | .inner _ i _ c n, j => q j = (i, c) ∧ sibAt q n (j + 1)
def chn (τ : mS) (b : Int) : FT → Int → Int → Prop
  | .leaf, _, x => x = -1
  | .inner _ _ _ _ n, j, x => x = b + j - 1 ∧ chn τ b n (j + 1) (τ 10 x)
theorem jn_cp_in {β : Bool} {d : Nat} {h : jx_H} {σ : mS} (hl : 49 ≤ h.length) {A B : Int → Prop} (hA : mIx A) (hB : mIx B) {z : Int} (hz : 0 ≤ z ∧ z < 5) (hAz : ∀ v, A v → ¬ Zn z v) (hBz : ∀ v, B v → ¬ Zn z v) {rt fi k : Int} (hk0 : 0 ≤ k) : ∀ (F : FT) (x m bh : Int) (τ : mS) (q : Int → tI × FT) (lf : Nat) (li : Int) (c8 c9 : Option Value), cpS σ τ A B z q m → mF σ A B F x → k < m → m + fsz F ≤ 170 → ((bh = -1 ∧ lf = 6 ∧ li = 170 * z + k) ∨ (170 * z ≤ bh ∧ bh < 170 * z + m - 1 ∧ lf = 10 ∧ li = bh)) → τ lf li = -1 →
    ∃ (τ' : mS) (q' : Int → tI × FT) (bh' : Int) (c8' c9' : Option Value), (∀ res, jx_r (jz β) jw_M (d + 1) 230 (174, [some (.ref 15), some (.int (Int32.ofInt (rt))), some (.int (Int32.ofInt (z))), some (.int (Int32.ofInt (fi))), some (.int (Int32.ofInt (m + (fsz F : Int)))), some (.int (Int32.ofInt (k))), some (.int (Int32.ofInt (bh'))), some (.int (Int32.ofInt (-1))), c8', c9'], [], ml_mk h τ') res → jx_r (jz β) jw_M (d + 1) 230 (73, [some (.ref 15), some (.int (Int32.ofInt (rt))), some (.int (Int32.ofInt (z))), some (.int (Int32.ofInt (fi))), some (.int (Int32.ofInt (m))), some (.int (Int32.ofInt (k))), some (.int (Int32.ofInt (bh))), some (.int (Int32.ofInt (x))), c8, c9], [], ml_mk h τ) res) ∧ cpS σ τ' A B z q' (m + fsz F) ∧ (∀ j, j < m → q' j = q j) ∧ sibAt q' F m ∧ chn τ' (170 * z) F m (τ' lf li) ∧ τ' 7 (170 * z + k) = τ 7 (170 * z + k) + fsz F ∧
      (∀ j, m ≤ j → j < m + fsz F → τ' 6 (170 * z + j) = -1 ∧ τ' 7 (170 * z + j) = 0) ∧ (∀ j, j < m → ¬ j = k → τ' 6 (170 * z + j) = τ 6 (170 * z + j) ∧ τ' 7 (170 * z + j) = τ 7 (170 * z + j)) ∧ (¬ lf = 6 → τ' 6 (170 * z + k) = τ 6 (170 * z + k)) ∧ (∀ y, y < 170 * z + m - 1 → ¬ (lf = 10 ∧ y = li) → τ' 10 y = τ 10 y)
  | .leaf, x, m, bh, τ, q, lf, li, c8, c9, hS, hx, hkm, hs, hlk, h1 => by
    have hx : x = -1 := hx
    subst hx
    have e0 : m + ((fsz .leaf : Nat) : Int) = m := Int.add_zero m
    refine ⟨τ, q, bh, c8, c9, fun res kk => ?_, by rw [e0]; exact hS, fun _ _ => rfl, trivial, h1, (Int.add_zero _).symm, fun j j1 j2 => by rw [e0] at j2; omega, fun _ _ _ => ⟨rfl, rfl⟩, fun _ => rfl, fun _ _ _ => rfl⟩
    rw [e0] at kk
    refine jr_1 jm_230 (show jw_cd cd_230 73 = some (.iload 7) by decide +kernel) rfl ?_
    refine jr_1 jm_230 (show jw_cd cd_230 75 = some (.iconst (-1)) by decide +kernel) rfl ?_
    refine jr_1 jm_230 (show jw_cd cd_230 76 = some (.if_icmp .eq 98) by decide +kernel) (mb_t (q := .eq) (a := -1) (b := -1) (t := 174) (by show -1 = -1; omega) ⟨by omega, by omega⟩ ⟨by omega, by omega⟩ (by decide) (by decide)) ?_
    exact kk
  | .inner s0 i u0 c n, x, m, bh, τ, q, lf, li, c8, c9, hS, hx, hkm, hs, hlk, h1 => by
    obtain ⟨b1, a1, hkey, ⟨n3, n4, n5, n7⟩, hc, hn⟩ := hx
    have hs : m + ((fsz n + 1 : Nat) : Int) ≤ 170 := hs
    have es : m + ((fsz (.inner s0 i u0 c n) : Nat) : Int) = m + 1 + (fsz n : Int) := by show m + ((fsz n + 1 : Nat) : Int) = _; omega
    obtain ⟨s11, s12, sN, sC, sF, sZ, sO⟩ := hS
    have bx := hB x b1
    have av := hA _ a1
    have bz := hBz x b1
    have az := hAz _ a1
    have bz' : x < 170 * z ∨ 170 * z + 170 ≤ x := by unfold Zn at bz; omega
    have az' : σ 8 x < 170 * z ∨ 170 * z + 170 ≤ σ 8 x := by unfold Zn at az; omega
    have hlf : lf = 6 ∨ lf = 10 := by rcases hlk with ⟨-, h, -⟩ | ⟨-, -, h, -⟩; exact Or.inl h; exact Or.inr h
    have hk2 : mLk bh (170 * z + k) lf li := by
      rcases hlk with ⟨l1, l2, l3⟩ | ⟨l1, l2, l3, l4⟩
      · exact Or.inl ⟨l1, l2, l3⟩
      · exact Or.inr ⟨by omega, by omega, l3, l4⟩
    have p8 : τ 8 x = σ 8 x := sF 8 x bz (by decide) (by decide)
    have p3 : τ 3 (σ 8 x) = i.1 := (sF 3 _ az (by decide) (by decide)).trans n3
    have p4 : τ 4 (σ 8 x) = i.2.1 := (sF 4 _ az (by decide) (by decide)).trans n4
    have p5 : τ 5 (σ 8 x) = pk i.2.2.1 := (sF 5 _ az (by decide) (by decide)).trans n5
    have p44 : (mNode τ z i.1 i.2.1 (pk i.2.2.1)) 44 k = 170 * z + k := (congrFun (mNode_o (by decide)) k).trans (sN k hk0 hkm).2.2
    have p9 : (mNode τ z i.1 i.2.1 (pk i.2.2.1)) 9 x = pk i.2.2.2 := (congrFun (mNode_o (by decide)) x).trans ((sF 9 x bz (by decide) (by decide)).trans hkey)
    have s12 : (mNode τ z i.1 i.2.1 (pk i.2.2.1)) 12 z = m - 1 := (congrFun (mNode_o (by decide)) z).trans s12
    have p10 : (mJoin (mNode τ z i.1 i.2.1 (pk i.2.2.1)) z (170 * z + k) lf li (170 * z + m) (pk i.2.2.2)) 10 x = σ 10 x := by
      rw [mJoin_10, s12, if_neg, if_neg (by omega), mNode_o (by decide)]
      · exact sF 10 x bz (by decide) (by decide)
      · rcases hlk with ⟨l1, l2, l3⟩ | ⟨l1, l2, l3, l4⟩ <;> omega
    obtain ⟨τ1, hτ1⟩ : ∃ τ1, τ1 = (su (su (mJoin (mNode τ z i.1 i.2.1 (pk i.2.2.1)) z (170 * z + k) lf li (170 * z + m) (pk i.2.2.2)) 43 (m) (σ 8 x)) 44 (m) (170 * z + m)) := ⟨_, rfl⟩
    have r3 : ∀ v, τ1 3 v = if v = 170 * z + m then i.1 else τ 3 v := fun v => by rw [hτ1, su_nf (by decide), su_nf (by decide), mJoin_o hlf (by decide), mNode_3, s11]
    have r4 : ∀ v, τ1 4 v = if v = 170 * z + m then i.2.1 else τ 4 v := fun v => by rw [hτ1, su_nf (by decide), su_nf (by decide), mJoin_o hlf (by decide), mNode_4, s11]
    have r5 : ∀ v, τ1 5 v = if v = 170 * z + m then pk i.2.2.1 else τ 5 v := fun v => by rw [hτ1, su_nf (by decide), su_nf (by decide), mJoin_o hlf (by decide), mNode_5, s11]
    have r6 : ∀ v, τ1 6 v = if lf = 6 ∧ v = li then 170 * z + (m - 1) else if v = 170 * z + m then -1 else τ 6 v := fun v => by rw [hτ1, su_nf (by decide), su_nf (by decide), mJoin_6 hlf, s12, mNode_6, s11]
    have r7 : ∀ v, τ1 7 v = if v = 170 * z + k then τ 7 (170 * z + k) + 1 else if v = 170 * z + m then 0 else τ 7 v := fun v => by
      rw [hτ1, su_nf (by decide), su_nf (by decide), mJoin_7, mNode_7, mNode_7, s11, if_neg (by omega : ¬ 170 * z + k = 170 * z + m)]
      rw [if_neg (by omega : ¬ (lf = 7 ∧ v = li))]
    have r8 : ∀ v, τ1 8 v = if v = 170 * z + (m - 1) then 170 * z + m else τ 8 v := fun v => by rw [hτ1, su_nf (by decide), su_nf (by decide), mJoin_8 (by omega), s12, mNode_o (by decide)]
    have r9 : ∀ v, τ1 9 v = if v = 170 * z + (m - 1) then pk i.2.2.2 else τ 9 v := fun v => by rw [hτ1, su_nf (by decide), su_nf (by decide), mJoin_9 (by omega), s12, mNode_o (by decide)]
    have r10 : ∀ v, τ1 10 v = if lf = 10 ∧ v = li then 170 * z + (m - 1) else if v = 170 * z + (m - 1) then -1 else τ 10 v := fun v => by rw [hτ1, su_nf (by decide), su_nf (by decide), mJoin_10, s12, mNode_o (by decide)]
    have r11 : ∀ v, τ1 11 v = if v = z then m + 1 else τ 11 v := fun v => by rw [hτ1, su_nf (by decide), su_nf (by decide), mJoin_o hlf (by decide), mNode_11, s11]
    have r12 : ∀ v, τ1 12 v = if v = z then m - 1 + 1 else τ 12 v := fun v => by rw [hτ1, su_nf (by decide), su_nf (by decide), mJoin_12 (by omega), s12, mNode_o (by decide)]
    have r43 : ∀ v, τ1 43 v = if v = m then σ 8 x else τ 43 v := fun v => by
      rw [hτ1, su_nf (by decide)]
      by_cases hv : v = m
      · subst hv
        rw [su_eq, if_pos rfl]
      · rw [su_ni hv, if_neg hv, mJoin_o hlf (by decide), mNode_o (by decide)]
    have r44 : ∀ v, τ1 44 v = if v = m then 170 * z + m else τ 44 v := fun v => by
      rw [hτ1]
      by_cases hv : v = m
      · subst hv
        rw [su_eq, if_pos rfl]
      · rw [su_ni hv, if_neg hv, su_nf (by decide), mJoin_o hlf (by decide), mNode_o (by decide)]
    obtain ⟨q1, hq1⟩ : ∃ q1 : Int → tI × FT, q1 = fun j => if j = m then (i, c) else q j := ⟨_, rfl⟩
    have qm : q1 m = (i, c) := by rw [hq1]; exact if_pos rfl
    have qo : ∀ j, ¬ j = m → q1 j = q j := fun j hj => by rw [hq1]; exact if_neg hj
    have hS1 : cpS σ τ1 A B z q1 (m + 1) := by
      refine ⟨by rw [r11, if_pos rfl], by rw [r12, if_pos rfl]; omega, fun j j0 j1 => ?_, fun j j0 j1 => ?_, fun f v hv f3 f10 => ?_, fun v hv => ?_, fun f hf f43 f44 => ?_⟩
      · by_cases hj : j = m
        · subst hj
          rw [qm]
          refine ⟨⟨by rw [r3, if_pos rfl], by rw [r4, if_pos rfl], by rw [r5, if_pos rfl]⟩, ?_, by rw [r44, if_pos rfl]⟩
          rw [r43, if_pos rfl]
          exact ⟨a1, ⟨n3, n4, n5, n7⟩, hc⟩
        · rw [qo j hj]
          obtain ⟨⟨c1, c2, c3⟩, c4, c5⟩ := sN j j0 (by omega)
          refine ⟨⟨?_, ?_, ?_⟩, ?_, ?_⟩
          · rw [r3, if_neg (by omega)]; exact c1
          · rw [r4, if_neg (by omega)]; exact c2
          · rw [r5, if_neg (by omega)]; exact c3
          · rw [r43, if_neg hj]; exact c4
          · rw [r44, if_neg hj]; exact c5
      · by_cases hj : j = m
        · subst hj
          rw [qm, r8, if_pos (by omega), r9, if_pos (by omega)]
          exact ⟨rfl, rfl⟩
        · rw [qo j hj, r8, if_neg (by omega), r9, if_neg (by omega)]
          exact sC j j0 (by omega)
      · have hv' : v < 170 * z ∨ 170 * z + 170 ≤ v := by unfold Zn at hv; omega
        have h6 : ¬ (lf = 6 ∧ v = li) := by rcases hlk with ⟨l1, l2, l3⟩ | ⟨l1, l2, l3, l4⟩ <;> omega
        have h10 : ¬ (lf = 10 ∧ v = li) := by rcases hlk with ⟨l1, l2, l3⟩ | ⟨l1, l2, l3, l4⟩ <;> omega
        rw [← sF f v hv f3 f10]
        obtain rfl | rfl | rfl | rfl | rfl | rfl | rfl | rfl : f = 3 ∨ f = 4 ∨ f = 5 ∨ f = 6 ∨ f = 7 ∨ f = 8 ∨ f = 9 ∨ f = 10 := by omega
        · rw [r3, if_neg (by omega)]
        · rw [r4, if_neg (by omega)]
        · rw [r5, if_neg (by omega)]
        · rw [r6, if_neg h6, if_neg (by omega)]
        · rw [r7, if_neg (by omega), if_neg (by omega)]
        · rw [r8, if_neg (by omega)]
        · rw [r9, if_neg (by omega)]
        · rw [r10, if_neg h10, if_neg (by omega)]
      · rw [r11, if_neg hv, r12, if_neg hv]
        exact sZ v hv
      · rw [hτ1, su_row f44, su_row f43, mJoin_o hlf (by simp; omega), mNode_o (by simp; omega)]
        exact sO f hf f43 f44
    have hl1 : τ1 10 (170 * z + (m - 1)) = -1 := by
      rw [r10, if_neg, if_pos rfl]
      rcases hlk with ⟨l1, l2, l3⟩ | ⟨l1, l2, l3, l4⟩ <;> omega
    obtain ⟨τ', q', bh', c8', c9', k1, k2, k3, k4, k5, k6, k7, k8, k9, k10⟩ := jn_cp_in (β := β) (d := d) (rt := rt) (fi := fi) hl hA hB hz hAz hBz hk0 n (σ 10 x) (m + 1) (170 * z + (m - 1)) τ1 q1 10 (170 * z + (m - 1)) (some (.int (Int32.ofInt (σ 8 x)))) (some (.int (Int32.ofInt (170 * z + m)))) hS1 hn (by omega) (by omega) (Or.inr ⟨by omega, by omega, rfl, rfl⟩) hl1
    have hlink : τ' lf li = 170 * z + (m - 1) := by
      rcases hlk with ⟨l1, l2, l3⟩ | ⟨l1, l2, l3, l4⟩
      · rw [l2, l3, k9 (by decide), r6, if_pos ⟨l2, l3.symm⟩]
      · rw [l3, l4, k10 _ (by omega) (by omega), r10, if_pos ⟨l3, l4.symm⟩]
    refine ⟨τ', q', bh', c8', c9', fun res kk => ?_, by rw [es]; exact k2, fun j hj => (k3 j (by omega)).trans (qo j (by omega)), ⟨(k3 m (by omega)).trans qm, k4⟩, ⟨by rw [hlink]; omega, by rw [hlink]; exact k5⟩, ?_, fun j j0 j1 => ?_, fun j hj hjk => ?_, fun hlf6 => ?_, fun y hy hyl => ?_⟩
    · rw [es] at kk
      refine jr_1 jm_230 (show jw_cd cd_230 73 = some (.iload 7) by decide +kernel) rfl ?_
      refine jr_1 jm_230 (show jw_cd cd_230 75 = some (.iconst (-1)) by decide +kernel) rfl ?_
      refine jr_1 jm_230 (show jw_cd cd_230 76 = some (.if_icmp .eq 98) by decide +kernel) (mb_f (q := .eq) (a := x) (b := -1) (by show ¬ (x = -1); omega) ⟨by omega, by omega⟩ ⟨by omega, by omega⟩ (by decide)) ?_
      refine jr_1 jm_230 (show jw_cd cd_230 79 = some (.aload_n 0) by decide +kernel) rfl ?_
      refine jr_1 jm_230 (show jw_cd cd_230 80 = some (.getfield 29) by decide +kernel) (mg_a hl (a := 22) (show jw_fld 34 29 16 = some 8 by decide +kernel) (by decide) (by decide)) ?_
      refine jr_1 jm_230 (show jw_cd cd_230 83 = some (.iload 7) by decide +kernel) rfl ?_
      refine jr_1 jm_230 (show jw_cd cd_230 85 = some (.iaload) by decide +kernel) (ma_i hl (i := x) (e := σ 8 x) 8 (by omega) (by show _ < ((1740 : Nat) : Int); omega) p8 (by decide) (by decide) (by decide)) ?_
      refine jr_1 jm_230 (F2 := (88, [some (.ref 15), some (.int (Int32.ofInt (rt))), some (.int (Int32.ofInt (z))), some (.int (Int32.ofInt (fi))), some (.int (Int32.ofInt (m))), some (.int (Int32.ofInt (k))), some (.int (Int32.ofInt (bh))), some (.int (Int32.ofInt (x))), some (.int (Int32.ofInt (σ 8 x))), c9], [], ml_mk h τ)) (show jw_cd cd_230 86 = some (.istore 8) by decide +kernel) rfl ?_
      refine jr_1 jm_230 (show jw_cd cd_230 88 = some (.aload_n 0) by decide +kernel) rfl ?_
      refine jr_1 jm_230 (show jw_cd cd_230 89 = some (.iload_n 2) by decide +kernel) rfl ?_
      refine jr_1 jm_230 (show jw_cd cd_230 90 = some (.aload_n 0) by decide +kernel) rfl ?_
      refine jr_1 jm_230 (show jw_cd cd_230 91 = some (.getfield 13) by decide +kernel) (mg_a hl (a := 17) (show jw_fld 34 13 16 = some 3 by decide +kernel) (by decide) (by decide)) ?_
      refine jr_1 jm_230 (show jw_cd cd_230 94 = some (.iload 8) by decide +kernel) rfl ?_
      refine jr_1 jm_230 (show jw_cd cd_230 96 = some (.iaload) by decide +kernel) (ma_i hl (i := σ 8 x) (e := i.1) 3 (by omega) (by show _ < ((1740 : Nat) : Int); omega) p3 (by decide) (by decide) (by decide)) ?_
      refine jr_1 jm_230 (show jw_cd cd_230 97 = some (.aload_n 0) by decide +kernel) rfl ?_
      refine jr_1 jm_230 (show jw_cd cd_230 98 = some (.getfield 16) by decide +kernel) (mg_a hl (a := 18) (show jw_fld 34 16 16 = some 4 by decide +kernel) (by decide) (by decide)) ?_
      refine jr_1 jm_230 (show jw_cd cd_230 101 = some (.iload 8) by decide +kernel) rfl ?_
      refine jr_1 jm_230 (show jw_cd cd_230 103 = some (.iaload) by decide +kernel) (ma_i hl (i := σ 8 x) (e := i.2.1) 4 (by omega) (by show _ < ((1740 : Nat) : Int); omega) p4 (by decide) (by decide) (by decide)) ?_
      refine jr_1 jm_230 (show jw_cd cd_230 104 = some (.aload_n 0) by decide +kernel) rfl ?_
      refine jr_1 jm_230 (show jw_cd cd_230 105 = some (.getfield 19) by decide +kernel) (mg_a hl (a := 19) (show jw_fld 34 19 16 = some 5 by decide +kernel) (by decide) (by decide)) ?_
      refine jr_1 jm_230 (show jw_cd cd_230 108 = some (.iload 8) by decide +kernel) rfl ?_
      refine jr_1 jm_230 (show jw_cd cd_230 110 = some (.laload) by decide +kernel) (ma_j hl (i := σ 8 x) (e := pk i.2.2.1) 5 (by omega) (by show _ < ((1740 : Nat) : Int); omega) p5 (by decide) (by decide) (by decide)) ?_
      refine jr_c jm_230 (show jw_cd cd_230 111 = some (.invokevirtual 110) by decide +kernel) (mc_v hl (n := 4) (m2 := 208) (bs := [.int (Int32.ofInt (z)), .int (Int32.ofInt (i.1)), .int (Int32.ofInt (i.2.1)), .long (Int64.ofInt (pk i.2.2.1))]) (r := []) (show jw_find jw_cvT 34 110 = some (4, [(16, 208)]) by decide +kernel) (by decide) rfl rfl rfl) jm_208 ⟨Nat.le_of_ble_eq_true rfl, by decide⟩ (jn_nodeM hl hz s11 (by omega) (by omega)) ?_
      refine jr_1 jm_230 (F2 := (116, [some (.ref 15), some (.int (Int32.ofInt (rt))), some (.int (Int32.ofInt (z))), some (.int (Int32.ofInt (fi))), some (.int (Int32.ofInt (m))), some (.int (Int32.ofInt (k))), some (.int (Int32.ofInt (bh))), some (.int (Int32.ofInt (x))), some (.int (Int32.ofInt (σ 8 x))), some (.int (Int32.ofInt (170 * z + m)))], [], ml_mk h (mNode τ z i.1 i.2.1 (pk i.2.2.1)))) (show jw_cd cd_230 114 = some (.istore 9) by decide +kernel) rfl ?_
      refine jr_1 jm_230 (show jw_cd cd_230 116 = some (.aload_n 0) by decide +kernel) rfl ?_
      refine jr_1 jm_230 (show jw_cd cd_230 117 = some (.iload_n 2) by decide +kernel) rfl ?_
      refine jr_1 jm_230 (show jw_cd cd_230 118 = some (.aload_n 0) by decide +kernel) rfl ?_
      refine jr_1 jm_230 (show jw_cd cd_230 119 = some (.getfield 104) by decide +kernel) (mg_a hl (a := 47) (show jw_fld 34 104 16 = some 44 by decide +kernel) (by decide) (by decide)) ?_
      refine jr_1 jm_230 (show jw_cd cd_230 122 = some (.iload 5) by decide +kernel) rfl ?_
      refine jr_1 jm_230 (show jw_cd cd_230 124 = some (.iaload) by decide +kernel) (ma_i hl (i := k) (e := 170 * z + k) 44 (by omega) (by show _ < ((400 : Nat) : Int); omega) p44 (by decide) (by decide) (by decide)) ?_
      refine jr_1 jm_230 (show jw_cd cd_230 125 = some (.iload 6) by decide +kernel) rfl ?_
      refine jr_1 jm_230 (show jw_cd cd_230 127 = some (.iload 9) by decide +kernel) rfl ?_
      refine jr_1 jm_230 (show jw_cd cd_230 129 = some (.aload_n 0) by decide +kernel) rfl ?_
      refine jr_1 jm_230 (show jw_cd cd_230 130 = some (.getfield 32) by decide +kernel) (mg_a hl (a := 23) (show jw_fld 34 32 16 = some 9 by decide +kernel) (by decide) (by decide)) ?_
      refine jr_1 jm_230 (show jw_cd cd_230 133 = some (.iload 7) by decide +kernel) rfl ?_
      refine jr_1 jm_230 (show jw_cd cd_230 135 = some (.laload) by decide +kernel) (ma_j hl (i := x) (e := pk i.2.2.2) 9 (by omega) (by show _ < ((1740 : Nat) : Int); omega) p9 (by decide) (by decide) (by decide)) ?_
      refine jr_c jm_230 (show jw_cd cd_230 136 = some (.invokevirtual 128) by decide +kernel) (mc_v hl (n := 5) (m2 := 229) (bs := [.int (Int32.ofInt (z)), .int (Int32.ofInt (170 * z + k)), .int (Int32.ofInt (bh)), .int (Int32.ofInt (170 * z + m)), .long (Int64.ofInt (pk i.2.2.2))]) (r := []) (show jw_find jw_cvT 34 128 = some (5, [(16, 229)]) by decide +kernel) (by decide) rfl rfl rfl) jm_229 ⟨Nat.le_of_ble_eq_true rfl, by decide⟩ (jn_joinM hl hz s12 (by omega) (by omega) ⟨by omega, by omega⟩ hk2) ?_
      refine jr_1 jm_230 (F2 := (141, [some (.ref 15), some (.int (Int32.ofInt (rt))), some (.int (Int32.ofInt (z))), some (.int (Int32.ofInt (fi))), some (.int (Int32.ofInt (m))), some (.int (Int32.ofInt (k))), some (.int (Int32.ofInt (170 * z + (m - 1)))), some (.int (Int32.ofInt (x))), some (.int (Int32.ofInt (σ 8 x))), some (.int (Int32.ofInt (170 * z + m)))], [], ml_mk h (mJoin (mNode τ z i.1 i.2.1 (pk i.2.2.1)) z (170 * z + k) lf li (170 * z + m) (pk i.2.2.2)))) (show jw_cd cd_230 139 = some (.istore 6) by decide +kernel) rfl ?_
      refine jr_1 jm_230 (show jw_cd cd_230 141 = some (.aload_n 0) by decide +kernel) rfl ?_
      refine jr_1 jm_230 (show jw_cd cd_230 142 = some (.getfield 101) by decide +kernel) (mg_a hl (a := 46) (show jw_fld 34 101 16 = some 43 by decide +kernel) (by decide) (by decide)) ?_
      refine jr_1 jm_230 (show jw_cd cd_230 145 = some (.iload 4) by decide +kernel) rfl ?_
      refine jr_1 jm_230 (show jw_cd cd_230 147 = some (.iload 8) by decide +kernel) rfl ?_
      refine jr_1 jm_230 (show jw_cd cd_230 149 = some (.iastore) by decide +kernel) (ms_i hl (i := m) (x := σ 8 x) 43 (by omega) (by show _ < ((400 : Nat) : Int); omega) (by decide) (by decide) (by decide)) ?_
      refine jr_1 jm_230 (show jw_cd cd_230 150 = some (.aload_n 0) by decide +kernel) rfl ?_
      refine jr_1 jm_230 (show jw_cd cd_230 151 = some (.getfield 104) by decide +kernel) (mg_a hl (a := 47) (show jw_fld 34 104 16 = some 44 by decide +kernel) (by decide) (by decide)) ?_
      refine jr_1 jm_230 (show jw_cd cd_230 154 = some (.iload 4) by decide +kernel) rfl ?_
      refine jr_1 jm_230 (show jw_cd cd_230 156 = some (.iload 9) by decide +kernel) rfl ?_
      refine jr_1 jm_230 (show jw_cd cd_230 158 = some (.iastore) by decide +kernel) (ms_i hl (i := m) (x := 170 * z + m) 44 (by omega) (by show _ < ((400 : Nat) : Int); omega) (by decide) (by decide) (by decide)) ?_
      refine jr_1 jm_230 (F2 := (162, [some (.ref 15), some (.int (Int32.ofInt (rt))), some (.int (Int32.ofInt (z))), some (.int (Int32.ofInt (fi))), some (.int (Int32.ofInt (m + 1))), some (.int (Int32.ofInt (k))), some (.int (Int32.ofInt (170 * z + (m - 1)))), some (.int (Int32.ofInt (x))), some (.int (Int32.ofInt (σ 8 x))), some (.int (Int32.ofInt (170 * z + m)))], [], ml_mk h (su (su (mJoin (mNode τ z i.1 i.2.1 (pk i.2.2.1)) z (170 * z + k) lf li (170 * z + m) (pk i.2.2.2)) 43 (m) (σ 8 x)) 44 (m) (170 * z + m)))) (show jw_cd cd_230 159 = some (.iinc 4 1) by decide +kernel) (mt_inc (a := m) (c := m + 1) rfl (by omega) rfl) ?_
      refine jr_1 jm_230 (show jw_cd cd_230 162 = some (.aload_n 0) by decide +kernel) rfl ?_
      refine jr_1 jm_230 (show jw_cd cd_230 163 = some (.getfield 35) by decide +kernel) (mg_a hl (a := 24) (show jw_fld 34 35 16 = some 10 by decide +kernel) (by decide) (by decide)) ?_
      refine jr_1 jm_230 (show jw_cd cd_230 166 = some (.iload 7) by decide +kernel) rfl ?_
      refine jr_1 jm_230 (show jw_cd cd_230 168 = some (.iaload) by decide +kernel) (ma_i hl (i := x) (e := σ 10 x) 10 (by omega) (by show _ < ((1740 : Nat) : Int); omega) ((su_nf (by decide)).trans ((su_nf (by decide)).trans p10)) (by decide) (by decide) (by decide)) ?_
      refine jr_1 jm_230 (F2 := (171, [some (.ref 15), some (.int (Int32.ofInt (rt))), some (.int (Int32.ofInt (z))), some (.int (Int32.ofInt (fi))), some (.int (Int32.ofInt (m + 1))), some (.int (Int32.ofInt (k))), some (.int (Int32.ofInt (170 * z + (m - 1)))), some (.int (Int32.ofInt (σ 10 x))), some (.int (Int32.ofInt (σ 8 x))), some (.int (Int32.ofInt (170 * z + m)))], [], ml_mk h (su (su (mJoin (mNode τ z i.1 i.2.1 (pk i.2.2.1)) z (170 * z + k) lf li (170 * z + m) (pk i.2.2.2)) 43 (m) (σ 8 x)) 44 (m) (170 * z + m)))) (show jw_cd cd_230 169 = some (.istore 7) by decide +kernel) rfl ?_
      refine jr_1 jm_230 (show jw_cd cd_230 171 = some (.goto (-98)) by decide +kernel) (ju_go (t := 73) (by decide)) ?_
      rw [← hτ1]
      exact k1 res kk
    · rw [k6, r7, if_pos rfl]
      show τ 7 (170 * z + k) + 1 + (fsz n : Int) = τ 7 (170 * z + k) + ((fsz n + 1 : Nat) : Int)
      omega
    · rw [es] at j1
      by_cases hj : j = m
      · subst hj
        obtain ⟨k81, k82⟩ := k8 j (by omega) (by omega)
        rw [k81, k82, r6, if_neg (by rcases hlk with ⟨l1, l2, l3⟩ | ⟨l1, l2, l3, l4⟩ <;> omega), if_pos rfl, r7, if_neg (by omega), if_pos rfl]
        exact ⟨rfl, rfl⟩
      · exact k7 j (by omega) j1
    · obtain ⟨k81, k82⟩ := k8 j (by omega) hjk
      rw [k81, k82, r6, if_neg (by rcases hlk with ⟨l1, l2, l3⟩ | ⟨l1, l2, l3, l4⟩ <;> omega), if_neg (by omega), r7, if_neg (by omega), if_neg (by omega)]
      exact ⟨rfl, rfl⟩
    · rw [k9 (by decide), r6, if_neg (fun e => hlf6 e.1), if_neg (by omega)]
    · rw [k10 y (by omega) (by omega), r10, if_neg hyl, if_neg (by omega)]
