/-! ===== the model copies a tree: the outer loop, the whole (printed by program: gen20.py) ===== -/
theorem chn_mono {τ τ' : mS} {b : Int} : ∀ (F : FT) (s x : Int), (∀ y, b + s - 1 ≤ y → y < b + s + fsz F - 1 → τ' 10 y = τ 10 y) → chn τ b F s x → chn τ' b F s x
  | .leaf, _, _, _, h => h
  | .inner s0 i u0 c n, s, x, hy, h => by
    have hf : (fsz (.inner s0 i u0 c n) : Int) = fsz n + 1 := by show ((fsz n + 1 : Nat) : Int) = _; omega
    refine ⟨h.1, ?_⟩
    rw [hy x (by have := h.1; omega) (by have := h.1; omega)]
    exact chn_mono n (s + 1) _ (fun y y1 y2 => hy y (by omega) (by omega)) h.2
theorem sibAt_mono {q q' : Int → tI × FT} : ∀ (F : FT) (s : Int), (∀ j, s ≤ j → j < s + fsz F → q' j = q j) → sibAt q F s → sibAt q' F s
  | .leaf, _, _, _ => trivial
  | .inner s0 i u0 c n, s, hj, h => by
    have hf : (fsz (.inner s0 i u0 c n) : Int) = fsz n + 1 := by show ((fsz n + 1 : Nat) : Int) = _; omega
    exact ⟨(hj s (by omega) (by omega)).trans h.1, sibAt_mono n (s + 1) (fun j j1 j2 => hj j (by omega) (by omega)) h.2⟩
/-- the entries from k on have these forests -/
def qG (q : Int → tI × FT) : Int → List FT → Prop
  | _, [] => True
  | k, F :: G => (q k).2 = F ∧ qG q (k + 1) G
theorem qG_app {q : Int → tI × FT} : ∀ (G : List FT) (k : Int) (G' : List FT), qG q k G → qG q (k + G.length) G' → qG q k (G ++ G')
  | [], k, G', _, h => by
    rw [show k + (([] : List FT).length : Int) = k by simp] at h
    exact h
  | F :: G, k, G', h, h' => ⟨h.1, qG_app G (k + 1) G' h.2 (by rw [show k + 1 + (G.length : Int) = k + ((F :: G).length : Int) by simp; omega]; exact h')⟩
theorem qG_mono {q q' : Int → tI × FT} : ∀ (G : List FT) (k : Int), (∀ j, k ≤ j → j < k + G.length → q' j = q j) → qG q k G → qG q' k G
  | [], _, _, _ => trivial
  | F :: G, k, hj, h => ⟨by rw [hj k (Int.le_refl k) (by simp; omega)]; exact h.1, qG_mono G (k + 1) (fun j j1 j2 => hj j (by omega) (by simp; omega)) h.2⟩
theorem qG_kids {q : Int → tI × FT} : ∀ (F : FT) (s : Int), sibAt q F s → qG q s (kids F)
  | .leaf, _, _ => trivial
  | .inner _ i _ c n, s, h => ⟨by rw [h.1], qG_kids n (s + 1) h.2⟩
/-- those before k are done, the others have nothing yet -/
def cpO (τ : mS) (z : Int) (q : Int → tI × FT) (k m : Int) : Prop := (∀ j, k ≤ j → j < m → τ 6 (170 * z + j) = -1 ∧ τ 7 (170 * z + j) = 0) ∧ ∀ p, 0 ≤ p → p < k → ∃ s, 1 ≤ s ∧ s + fsz (q p).2 ≤ m ∧ chn τ (170 * z) (q p).2 s (τ 6 (170 * z + p)) ∧ sibAt q (q p).2 s ∧ τ 7 (170 * z + p) = fsz (q p).2
theorem cp_fin {σ τ : mS} {A B : Int → Prop} {z : Int} {q : Int → tI × FT} {m : Int} (hm : m ≤ 170) (hS : cpS σ τ A B z q m) (hO : cpO τ z q m m) : ∀ (F : FT) (j x : Int), chn τ (170 * z) F j x → sibAt q F j → 1 ≤ j → j + fsz F ≤ m → mF τ (Zn z) (Zn z) F x
  | .leaf, _, _, h, _, _, _ => h
  | .inner s0 i u0 c n, j, x, h, hs, h1, hm2 => by
    have hf : (fsz (.inner s0 i u0 c n) : Int) = fsz n + 1 := by show ((fsz n + 1 : Nat) : Int) = _; omega
    obtain ⟨s11, s12, sN, sC, sF, sZ, sO⟩ := hS
    obtain ⟨hx, hc⟩ := h
    obtain ⟨hq, hs2⟩ := hs
    obtain ⟨c1, c2⟩ := sC j h1 (by omega)
    rw [← hx] at c1 c2
    obtain ⟨⟨n3, n4, n5⟩, -, -⟩ := sN j (by omega) (by omega)
    obtain ⟨s, k1, k2, k3, k4, k5⟩ := hO.2 j (by omega) (by omega)
    rw [hq] at c2 n3 n4 n5 k2 k3 k4 k5
    refine ⟨⟨by omega, by omega⟩, ?_, c2, ?_, ?_, ?_⟩
    · rw [c1]
      exact ⟨by omega, by omega⟩
    · rw [c1]
      exact ⟨n3, n4, n5, k5⟩
    · rw [c1]
      exact cp_fin hm ⟨s11, s12, sN, sC, sF, sZ, sO⟩ hO c s _ k3 k4 k1 k2
    · exact cp_fin hm ⟨s11, s12, sN, sC, sF, sZ, sO⟩ hO n (j + 1) _ hc hs2 (by omega) (by omega)
theorem jn_cp_out {β : Bool} {d : Nat} {h : jx_H} {σ : mS} (hl : 49 ≤ h.length) {A B : Int → Prop} (hA : mIx A) (hB : mIx B) {z : Int} (hz : 0 ≤ z ∧ z < 5) (hAz : ∀ v, A v → ¬ Zn z v) (hBz : ∀ v, B v → ¬ Zn z v) {rt fi : Int} : ∀ (s : Nat) (G : List FT) (k m : Int) (τ : mS) (q : Int → tI × FT) (c6 c7 c8 c9 : Option Value), G.length + fctL G = s → cpS σ τ A B z q m → cpO τ z q k m → qG q k G → m = k + G.length → 0 ≤ k → 1 ≤ m → m + fctL G ≤ 170 →
    ∃ (τ2 : mS) (q2 : Int → tI × FT) (m2 : Int), jx_r (jz β) jw_M (d + 1) 230 (49, [some (.ref 15), some (.int (Int32.ofInt (rt))), some (.int (Int32.ofInt (z))), some (.int (Int32.ofInt (fi))), some (.int (Int32.ofInt (m))), some (.int (Int32.ofInt (k))), c6, c7, c8, c9], [], ml_mk h τ) (ml_mk h (τ2), .inl (some (.int (Int32.ofInt (fi))))) ∧ cpS σ τ2 A B z q2 m2 ∧ cpO τ2 z q2 m2 m2 ∧ m2 ≤ 170 ∧ (∀ j, j < m → q2 j = q j) ∧ m ≤ m2
  | s, [], k, m, τ, q, c6, c7, c8, c9, hs, hS, hO, hG, hm, hk, h1, hb => by
    have hm : m = k := by simp at hm; exact hm
    have hb : m ≤ 170 := by
      have : (0 : Int) ≤ ((fctL [] : Nat) : Int) := Int.natCast_nonneg _
      omega
    refine ⟨τ, q, m, ?_, hS, by rw [← hm] at hO; exact hO, hb, fun _ _ => rfl, Int.le_refl m⟩
    refine jr_1 jm_230 (show jw_cd cd_230 49 = some (.iload 5) by decide +kernel) rfl ?_
    refine jr_1 jm_230 (show jw_cd cd_230 51 = some (.iload 4) by decide +kernel) rfl ?_
    refine jr_1 jm_230 (show jw_cd cd_230 53 = some (.if_icmp .ge 127) by decide +kernel) (mb_t (q := .ge) (a := k) (b := m) (t := 180) (by show m ≤ k; omega) ⟨by omega, by omega⟩ ⟨by omega, by omega⟩ (by decide) (by decide)) ?_
    refine jr_1 jm_230 (show jw_cd cd_230 180 = some (.iload_n 3) by decide +kernel) rfl ?_
    exact jr_v jm_230 (show jw_cd cd_230 181 = some (.ireturn) by decide +kernel) rfl
  | 0, F :: G, k, m, τ, q, c6, c7, c8, c9, hs, hS, hO, hG, hm, hk, h1, hb => by
    simp at hs
  | s + 1, F :: G, k, m, τ, q, c6, c7, c8, c9, hs, hS, hO, hG, hm, hk, h1, hb => by
    obtain ⟨hqk, hG⟩ := hG
    have hc := kids_ct F
    have hf : fctL (F :: G) = fct F + fctL G := rfl
    have hgl : ((F :: G).length : Int) = G.length + 1 := by simp
    have hkl := kids_len F
    obtain ⟨s11, s12, sN, sC, sF, sZ, sO⟩ := hS
    obtain ⟨-, ⟨a1, a2, a3⟩, -⟩ := sN k hk (by omega)
    have av := hA _ a1
    have az := hAz _ a1
    have p6 : τ 6 (τ 43 k) = σ 6 (τ 43 k) := sF 6 _ az (by decide) (by decide)
    rw [hqk] at a3
    obtain ⟨τ', q', bh', c8', c9', k1, k2, k3, k4, k5, k6, k7, k8, k9, k10⟩ := jn_cp_in (β := β) (d := d) (rt := rt) (fi := fi) hl hA hB hz hAz hBz hk F (σ 6 (τ 43 k)) m (-1) τ q 6 (170 * z + k) c8 c9 ⟨s11, s12, sN, sC, sF, sZ, sO⟩ a3 (by omega) (by omega) (Or.inl ⟨rfl, rfl, rfl⟩) (hO.1 k (Int.le_refl k) (by omega)).1
    have hO2 : cpO τ' z q' (k + 1) (m + fsz F) := by
      refine ⟨fun j j1 j2 => ?_, fun p p0 p1 => ?_⟩
      · by_cases hj : j < m
        · obtain ⟨x1, x2⟩ := k8 j hj (by omega)
          rw [x1, x2]
          exact hO.1 j (by omega) hj
        · exact k7 j (by omega) j2
      · by_cases hp : p = k
        · subst hp
          refine ⟨m, h1, ?_, ?_, ?_, ?_⟩
          · rw [k3 p (by omega), hqk]
            exact Int.le_refl _
          · rw [k3 p (by omega), hqk]
            exact k5
          · rw [k3 p (by omega), hqk]
            exact k4
          · rw [k3 p (by omega), hqk, k6, (hO.1 p (Int.le_refl p) (by omega)).2]
            omega
        · obtain ⟨s, t1, t2, t3, t4, t5⟩ := hO.2 p p0 (by omega)
          obtain ⟨x1, x2⟩ := k8 p (by omega) hp
          refine ⟨s, t1, ?_, ?_, ?_, ?_⟩
          · rw [k3 p (by omega)]
            omega
          · rw [k3 p (by omega), x1]
            exact chn_mono _ s _ (fun y y1 y2 => k10 y (by omega) (by omega)) t3
          · rw [k3 p (by omega)]
            exact sibAt_mono _ s (fun j j1 j2 => k3 j (by omega)) t4
          · rw [k3 p (by omega), x2]
            exact t5
    obtain ⟨τ2, q2, m2, r1, r2, r3, r4, r5, r6⟩ := jn_cp_out (β := β) (d := d) (rt := rt) (fi := fi) hl hA hB hz hAz hBz s (G ++ kids F) (k + 1) (m + fsz F) τ' q' (some (.int (Int32.ofInt (bh')))) (some (.int (Int32.ofInt (-1)))) c8' c9' (by rw [List.length_append, fctL_app, hkl]; simp at hs; omega) k2 hO2 (by
      refine qG_app G (k + 1) _ (qG_mono G (k + 1) (fun j j1 j2 => k3 j (by omega)) hG) ?_
      rw [show k + 1 + (G.length : Int) = m by omega]
      exact qG_kids F m k4) (by rw [List.length_append, hkl]; simp; omega) (by omega) (by omega) (by rw [fctL_app]; omega)
    refine ⟨τ2, q2, m2, ?_, r2, r3, r4, fun j hj => (r5 j (by omega)).trans (k3 j hj), by omega⟩
    refine jr_1 jm_230 (show jw_cd cd_230 49 = some (.iload 5) by decide +kernel) rfl ?_
    refine jr_1 jm_230 (show jw_cd cd_230 51 = some (.iload 4) by decide +kernel) rfl ?_
    refine jr_1 jm_230 (show jw_cd cd_230 53 = some (.if_icmp .ge 127) by decide +kernel) (mb_f (q := .ge) (a := k) (b := m) (by show ¬ (m ≤ k); omega) ⟨by omega, by omega⟩ ⟨by omega, by omega⟩ (by decide)) ?_
    refine jr_1 jm_230 (show jw_cd cd_230 56 = some (.iconst (-1)) by decide +kernel) rfl ?_
    refine jr_1 jm_230 (F2 := (59, [some (.ref 15), some (.int (Int32.ofInt (rt))), some (.int (Int32.ofInt (z))), some (.int (Int32.ofInt (fi))), some (.int (Int32.ofInt (m))), some (.int (Int32.ofInt (k))), some (.int (Int32.ofInt (-1))), c7, c8, c9], [], ml_mk h τ)) (show jw_cd cd_230 57 = some (.istore 6) by decide +kernel) rfl ?_
    refine jr_1 jm_230 (show jw_cd cd_230 59 = some (.aload_n 0) by decide +kernel) rfl ?_
    refine jr_1 jm_230 (show jw_cd cd_230 60 = some (.getfield 23) by decide +kernel) (mg_a hl (a := 20) (show jw_fld 34 23 16 = some 6 by decide +kernel) (by decide) (by decide)) ?_
    refine jr_1 jm_230 (show jw_cd cd_230 63 = some (.aload_n 0) by decide +kernel) rfl ?_
    refine jr_1 jm_230 (show jw_cd cd_230 64 = some (.getfield 101) by decide +kernel) (mg_a hl (a := 46) (show jw_fld 34 101 16 = some 43 by decide +kernel) (by decide) (by decide)) ?_
    refine jr_1 jm_230 (show jw_cd cd_230 67 = some (.iload 5) by decide +kernel) rfl ?_
    refine jr_1 jm_230 (show jw_cd cd_230 69 = some (.iaload) by decide +kernel) (ma_i hl (i := k) (e := τ 43 (k)) 43 (by omega) (by show _ < ((400 : Nat) : Int); omega) rfl (by decide) (by decide) (by decide)) ?_
    refine jr_1 jm_230 (show jw_cd cd_230 70 = some (.iaload) by decide +kernel) (ma_i hl (i := τ 43 (k)) (e := σ 6 (τ 43 k)) 6 (by omega) (by show _ < ((1740 : Nat) : Int); omega) p6 (by decide) (by decide) (by decide)) ?_
    refine jr_1 jm_230 (F2 := (73, [some (.ref 15), some (.int (Int32.ofInt (rt))), some (.int (Int32.ofInt (z))), some (.int (Int32.ofInt (fi))), some (.int (Int32.ofInt (m))), some (.int (Int32.ofInt (k))), some (.int (Int32.ofInt (-1))), some (.int (Int32.ofInt (σ 6 (τ 43 k)))), c8, c9], [], ml_mk h τ)) (show jw_cd cd_230 71 = some (.istore 7) by decide +kernel) rfl ?_
    refine k1 _ ?_
    refine jr_1 jm_230 (F2 := (177, [some (.ref 15), some (.int (Int32.ofInt (rt))), some (.int (Int32.ofInt (z))), some (.int (Int32.ofInt (fi))), some (.int (Int32.ofInt (m + (fsz F : Int)))), some (.int (Int32.ofInt (k + 1))), some (.int (Int32.ofInt (bh'))), some (.int (Int32.ofInt (-1))), c8', c9'], [], ml_mk h τ')) (show jw_cd cd_230 174 = some (.iinc 5 1) by decide +kernel) (mt_inc (a := k) (c := k + 1) rfl (by omega) rfl) ?_
    refine jr_1 jm_230 (show jw_cd cd_230 177 = some (.goto (-128)) by decide +kernel) (ju_go (t := 49) (by decide)) ?_
    exact r1
theorem jn_copy {β : Bool} {d : Nat} {h : jx_H} {σ : mS} (hl : 49 ≤ h.length) {A B : Int → Prop} (hA : mIx A) (hB : mIx B) {z : Int} (hz : 0 ≤ z ∧ z < 5) (hAz : ∀ v, A v → ¬ Zn z v) (hBz : ∀ v, B v → ¬ Zn z v) {v : Int} {i : tI} {F : FT} (hV : mV σ A B v i F) (hN : 1 + fct F ≤ 170) : ∃ τ2, jx_r (jz β) jw_M (d + 1) 230 (0, [some (.ref 15), some (.int (Int32.ofInt (v))), some (.int (Int32.ofInt (z))), none, none, none, none, none, none, none], [], ml_mk h σ) (ml_mk h (τ2), .inl (some (.int (Int32.ofInt (170 * z))))) ∧ mV τ2 (Zn z) (Zn z) (170 * z) i F ∧ (∀ f v, ¬ Zn z v → 3 ≤ f → f ≤ 10 → τ2 f v = σ f v) ∧ (∀ v, ¬ v = z → τ2 11 v = σ 11 v ∧ τ2 12 v = σ 12 v) ∧ (∀ f, f < 3 ∨ 12 < f → ¬ f = 43 → ¬ f = 44 → τ2 f = σ f) := by
  obtain ⟨a1, ⟨n3, n4, n5, n7⟩, a3⟩ := hV
  have av := hA _ a1
  have az := hAz _ a1
  have az' : v < 170 * z ∨ 170 * z + 170 ≤ v := by unfold Zn at az; omega
  have eE : ∀ f, ¬ f = 11 → ¬ f = 12 → mEmpty σ z f = σ f := fun f h1 h2 => by
    unfold mEmpty
    rw [su_row h2, su_row h1]
  have p3 : mEmpty σ z 3 v = i.1 := by rw [eE 3 (by decide) (by decide)]; exact n3
  have p4 : mEmpty σ z 4 v = i.2.1 := by rw [eE 4 (by decide) (by decide)]; exact n4
  have p5 : mEmpty σ z 5 v = pk i.2.2.1 := by rw [eE 5 (by decide) (by decide)]; exact n5
  have p11 : mEmpty σ z 11 z = 0 := (su_nf (by decide)).trans (su_eq _ _ _ _)
  obtain ⟨τ, hτ⟩ : ∃ τ, τ = (su (su (mNode (mEmpty σ z) z i.1 i.2.1 (pk i.2.2.1)) 43 (0) (v)) 44 (0) (170 * z + 0)) := ⟨_, rfl⟩
  have r3 : ∀ v, τ 3 v = if v = 170 * z + 0 then i.1 else σ 3 v := fun v => by rw [hτ, su_nf (by decide), su_nf (by decide), mNode_3, p11, eE 3 (by decide) (by decide)]
  have r4 : ∀ v, τ 4 v = if v = 170 * z + 0 then i.2.1 else σ 4 v := fun v => by rw [hτ, su_nf (by decide), su_nf (by decide), mNode_4, p11, eE 4 (by decide) (by decide)]
  have r5 : ∀ v, τ 5 v = if v = 170 * z + 0 then pk i.2.2.1 else σ 5 v := fun v => by rw [hτ, su_nf (by decide), su_nf (by decide), mNode_5, p11, eE 5 (by decide) (by decide)]
  have r6 : ∀ v, τ 6 v = if v = 170 * z + 0 then -1 else σ 6 v := fun v => by rw [hτ, su_nf (by decide), su_nf (by decide), mNode_6, p11, eE 6 (by decide) (by decide)]
  have r7 : ∀ v, τ 7 v = if v = 170 * z + 0 then 0 else σ 7 v := fun v => by rw [hτ, su_nf (by decide), su_nf (by decide), mNode_7, p11, eE 7 (by decide) (by decide)]
  have r11 : ∀ v, τ 11 v = if v = z then 1 else σ 11 v := fun v => by
    rw [hτ, su_nf (by decide), su_nf (by decide), mNode_11, p11]
    by_cases hv : v = z
    · rw [if_pos hv, if_pos hv]
      rfl
    · rw [if_neg hv, if_neg hv]
      exact (su_nf (by decide)).trans (su_ni hv)
  have r12 : ∀ v, τ 12 v = if v = z then 0 else σ 12 v := fun v => by
    rw [hτ, su_nf (by decide), su_nf (by decide), mNode_o (by decide)]
    by_cases hv : v = z
    · rw [if_pos hv, hv]
      exact su_eq _ _ _ _
    · rw [if_neg hv]
      exact (su_ni hv).trans (su_nf (by decide))
  have hS : cpS σ τ A B z (fun _ => (i, F)) 1 := by
    refine ⟨by rw [r11, if_pos rfl], by rw [r12, if_pos rfl]; rfl, fun j j0 j1 => ?_, fun j j0 j1 => absurd j1 (by omega), fun f w hw f3 f10 => ?_, fun w hw => ?_, fun f hf f43 f44 => ?_⟩
    · obtain rfl : j = 0 := by omega
      refine ⟨⟨by rw [r3, if_pos rfl], by rw [r4, if_pos rfl], by rw [r5, if_pos rfl]⟩, ?_, ?_⟩
      · rw [show τ 43 0 = v from by rw [hτ, su_nf (by decide), su_eq]]
        exact ⟨a1, ⟨n3, n4, n5, n7⟩, a3⟩
      · rw [hτ, su_eq]
    · have hw' : w < 170 * z ∨ 170 * z + 170 ≤ w := by unfold Zn at hw; omega
      obtain rfl | rfl | rfl | rfl | rfl | hf : f = 3 ∨ f = 4 ∨ f = 5 ∨ f = 6 ∨ f = 7 ∨ 8 ≤ f := by omega
      · rw [r3, if_neg (by omega)]
      · rw [r4, if_neg (by omega)]
      · rw [r5, if_neg (by omega)]
      · rw [r6, if_neg (by omega)]
      · rw [r7, if_neg (by omega)]
      · rw [hτ, su_nf (by omega), su_nf (by omega), mNode_o (by simp; omega), eE f (by omega) (by omega)]
    · rw [r11, if_neg hw, r12, if_neg hw]
      exact ⟨rfl, rfl⟩
    · rw [hτ, su_row f44, su_row f43, mNode_o (by simp; omega), eE f (by omega) (by omega)]
  have hO : cpO τ z (fun _ => (i, F)) 0 1 := by
    refine ⟨fun j j0 j1 => ?_, fun p p0 p1 => absurd p1 (by omega)⟩
    obtain rfl : j = 0 := by omega
    rw [r6, if_pos rfl, r7, if_pos rfl]
    exact ⟨rfl, rfl⟩
  obtain ⟨τ2, q2, m2, k1, k2, k3, k4, k5, k6⟩ := jn_cp_out (β := β) (d := d) (rt := v) (fi := 170 * z + 0) hl hA hB hz hAz hBz (1 + (fct F + 0)) [F] 0 1 τ (fun _ => (i, F)) none none none none rfl hS hO ⟨rfl, trivial⟩ rfl (by omega) (by omega) (by show (1 : Int) + ((fct F + 0 : Nat) : Int) ≤ 170; omega)
  refine ⟨τ2, ?_, ?_, k2.2.2.2.2⟩
  · skip
    refine jr_1 jm_230 (show jw_cd cd_230 0 = some (.aload_n 0) by decide +kernel) rfl ?_
    refine jr_1 jm_230 (show jw_cd cd_230 1 = some (.iload_n 2) by decide +kernel) rfl ?_
    refine jr_c jm_230 (show jw_cd cd_230 2 = some (.invokevirtual 124) by decide +kernel) (mc_v hl (n := 1) (m2 := 213) (bs := [.int (Int32.ofInt (z))]) (r := []) (show jw_find jw_cvT 34 124 = some (1, [(16, 213)]) by decide +kernel) (by decide) rfl rfl rfl) jm_213 ⟨Nat.le_of_ble_eq_true rfl, by decide⟩ (jn_empty hl hz) ?_
    refine jr_1 jm_230 (show jw_cd cd_230 5 = some (.aload_n 0) by decide +kernel) rfl ?_
    refine jr_1 jm_230 (show jw_cd cd_230 6 = some (.iload_n 2) by decide +kernel) rfl ?_
    refine jr_1 jm_230 (show jw_cd cd_230 7 = some (.aload_n 0) by decide +kernel) rfl ?_
    refine jr_1 jm_230 (show jw_cd cd_230 8 = some (.getfield 13) by decide +kernel) (mg_a hl (a := 17) (show jw_fld 34 13 16 = some 3 by decide +kernel) (by decide) (by decide)) ?_
    refine jr_1 jm_230 (show jw_cd cd_230 11 = some (.iload_n 1) by decide +kernel) rfl ?_
    refine jr_1 jm_230 (show jw_cd cd_230 12 = some (.iaload) by decide +kernel) (ma_i hl (i := v) (e := i.1) 3 (by omega) (by show _ < ((1740 : Nat) : Int); omega) p3 (by decide) (by decide) (by decide)) ?_
    refine jr_1 jm_230 (show jw_cd cd_230 13 = some (.aload_n 0) by decide +kernel) rfl ?_
    refine jr_1 jm_230 (show jw_cd cd_230 14 = some (.getfield 16) by decide +kernel) (mg_a hl (a := 18) (show jw_fld 34 16 16 = some 4 by decide +kernel) (by decide) (by decide)) ?_
    refine jr_1 jm_230 (show jw_cd cd_230 17 = some (.iload_n 1) by decide +kernel) rfl ?_
    refine jr_1 jm_230 (show jw_cd cd_230 18 = some (.iaload) by decide +kernel) (ma_i hl (i := v) (e := i.2.1) 4 (by omega) (by show _ < ((1740 : Nat) : Int); omega) p4 (by decide) (by decide) (by decide)) ?_
    refine jr_1 jm_230 (show jw_cd cd_230 19 = some (.aload_n 0) by decide +kernel) rfl ?_
    refine jr_1 jm_230 (show jw_cd cd_230 20 = some (.getfield 19) by decide +kernel) (mg_a hl (a := 19) (show jw_fld 34 19 16 = some 5 by decide +kernel) (by decide) (by decide)) ?_
    refine jr_1 jm_230 (show jw_cd cd_230 23 = some (.iload_n 1) by decide +kernel) rfl ?_
    refine jr_1 jm_230 (show jw_cd cd_230 24 = some (.laload) by decide +kernel) (ma_j hl (i := v) (e := pk i.2.2.1) 5 (by omega) (by show _ < ((1740 : Nat) : Int); omega) p5 (by decide) (by decide) (by decide)) ?_
    refine jr_c jm_230 (show jw_cd cd_230 25 = some (.invokevirtual 110) by decide +kernel) (mc_v hl (n := 4) (m2 := 208) (bs := [.int (Int32.ofInt (z)), .int (Int32.ofInt (i.1)), .int (Int32.ofInt (i.2.1)), .long (Int64.ofInt (pk i.2.2.1))]) (r := []) (show jw_find jw_cvT 34 110 = some (4, [(16, 208)]) by decide +kernel) (by decide) rfl rfl rfl) jm_208 ⟨Nat.le_of_ble_eq_true rfl, by decide⟩ (jn_nodeM hl hz p11 (m := 0) (by omega) (by omega)) ?_
    refine jr_1 jm_230 (F2 := (29, [some (.ref 15), some (.int (Int32.ofInt (v))), some (.int (Int32.ofInt (z))), some (.int (Int32.ofInt (170 * z + 0))), none, none, none, none, none, none], [], ml_mk h (mNode (mEmpty σ z) z i.1 i.2.1 (pk i.2.2.1)))) (show jw_cd cd_230 28 = some (.istore_n 3) by decide +kernel) rfl ?_
    refine jr_1 jm_230 (show jw_cd cd_230 29 = some (.aload_n 0) by decide +kernel) rfl ?_
    refine jr_1 jm_230 (show jw_cd cd_230 30 = some (.getfield 101) by decide +kernel) (mg_a hl (a := 46) (show jw_fld 34 101 16 = some 43 by decide +kernel) (by decide) (by decide)) ?_
    refine jr_1 jm_230 (show jw_cd cd_230 33 = some (.iconst 0) by decide +kernel) rfl ?_
    refine jr_1 jm_230 (show jw_cd cd_230 34 = some (.iload_n 1) by decide +kernel) rfl ?_
    refine jr_1 jm_230 (show jw_cd cd_230 35 = some (.iastore) by decide +kernel) (ms_i hl (i := 0) (x := v) 43 (by omega) (by show _ < ((400 : Nat) : Int); omega) (by decide) (by decide) (by decide)) ?_
    refine jr_1 jm_230 (show jw_cd cd_230 36 = some (.aload_n 0) by decide +kernel) rfl ?_
    refine jr_1 jm_230 (show jw_cd cd_230 37 = some (.getfield 104) by decide +kernel) (mg_a hl (a := 47) (show jw_fld 34 104 16 = some 44 by decide +kernel) (by decide) (by decide)) ?_
    refine jr_1 jm_230 (show jw_cd cd_230 40 = some (.iconst 0) by decide +kernel) rfl ?_
    refine jr_1 jm_230 (show jw_cd cd_230 41 = some (.iload_n 3) by decide +kernel) rfl ?_
    refine jr_1 jm_230 (show jw_cd cd_230 42 = some (.iastore) by decide +kernel) (ms_i hl (i := 0) (x := 170 * z + 0) 44 (by omega) (by show _ < ((400 : Nat) : Int); omega) (by decide) (by decide) (by decide)) ?_
    refine jr_1 jm_230 (show jw_cd cd_230 43 = some (.iconst 1) by decide +kernel) rfl ?_
    refine jr_1 jm_230 (F2 := (46, [some (.ref 15), some (.int (Int32.ofInt (v))), some (.int (Int32.ofInt (z))), some (.int (Int32.ofInt (170 * z + 0))), some (.int (Int32.ofInt (1))), none, none, none, none, none], [], ml_mk h (su (su (mNode (mEmpty σ z) z i.1 i.2.1 (pk i.2.2.1)) 43 (0) (v)) 44 (0) (170 * z + 0)))) (show jw_cd cd_230 44 = some (.istore 4) by decide +kernel) rfl ?_
    refine jr_1 jm_230 (show jw_cd cd_230 46 = some (.iconst 0) by decide +kernel) rfl ?_
    refine jr_1 jm_230 (F2 := (49, [some (.ref 15), some (.int (Int32.ofInt (v))), some (.int (Int32.ofInt (z))), some (.int (Int32.ofInt (170 * z + 0))), some (.int (Int32.ofInt (1))), some (.int (Int32.ofInt (0))), none, none, none, none], [], ml_mk h (su (su (mNode (mEmpty σ z) z i.1 i.2.1 (pk i.2.2.1)) 43 (0) (v)) 44 (0) (170 * z + 0)))) (show jw_cd cd_230 47 = some (.istore 5) by decide +kernel) rfl ?_
    rw [← hτ]
    simp only [Int.add_zero] at k1 ⊢
    exact k1
  · have hq0 : q2 0 = (i, F) := k5 0 (by omega)
    obtain ⟨⟨x3, x4, x5⟩, -, -⟩ := k2.2.2.1 0 (by omega) (by omega)
    obtain ⟨s, t1, t2, t3, t4, t5⟩ := k3.2 0 (by omega) (by omega)
    rw [hq0] at x3 x4 x5 t2 t3 t4 t5
    rw [show 170 * z + 0 = 170 * z by omega] at x3 x4 x5 t3 t5
    exact ⟨⟨by omega, by omega⟩, ⟨x3, x4, x5, t5⟩, cp_fin k4 k2 k3 F s _ t3 t4 t1 t2⟩
