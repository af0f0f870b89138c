/-! ===== both objects in one heap ===== -/
theorem cl_low {h : jx_H} {κ : mS} {a : Nat} (ha : a < 15) : (cl_mk h κ)[a]? = (cl_ce κ)[a]? := by
  unfold cl_mk
  rw [List.getElem?_append_left (show a < (cl_ce κ).length from ha)]
theorem cl_ml {h : jx_H} {σ κ : mS} (hl : 49 ≤ h.length) : cl_mk (ml_mk h σ) κ = ml_mk (cl_mk h κ) σ := by
  have e1 := ml_len (σ := σ) hl
  have e2 : (cl_mk h κ).length = h.length := cl_len (by omega)
  apply List.ext_getElem?
  intro a
  by_cases h1 : a < 15
  · rw [cl_low h1, ml_other (by omega) (Or.inl h1), cl_low h1]
  · rw [cl_dy (by omega) (by omega)]
    by_cases h2 : a < 49
    · obtain ⟨k, rfl⟩ : ∃ k, a = 15 + k := ⟨a - 15, by omega⟩
      have h3 : k < 34 := by omega
      rw [ml_get hl h3, ml_get (by omega) h3]
    · have h3 : 49 ≤ a := by omega
      rw [ml_other hl (Or.inr h3), ml_other (by omega) (Or.inr h3), cl_dy (by omega) (by omega)]
theorem ml_fix {g h : jx_H} {σ : mS} (hg : ml_mk g σ = g) (hl : 49 ≤ g.length) (hl2 : 49 ≤ h.length) (hq : ∀ (c : Nat) (y : jx_C), 15 ≤ c → c < 49 → g[c]? = some y → h[c]? = some y) : ml_mk h σ = h := by
  apply List.ext_getElem?
  intro a
  by_cases h1 : a < 15 ∨ 49 ≤ a
  · rw [ml_other hl2 h1]
  · obtain ⟨k, rfl⟩ : ∃ k, a = 15 + k := ⟨a - 15, by omega⟩
    have h3 : k < 34 := by omega
    have e := ml_get (σ := σ) hl h3
    rw [hg] at e
    rw [ml_get hl2 h3]
    have e3 : k < (ml_ce σ).length := by rw [ml_ce_len]; exact h3
    rw [List.getElem?_eq_getElem e3] at e ⊢
    exact (hq _ _ (by omega) (by omega) e).symm
theorem ml_idem {h : jx_H} {σ τ : mS} (hl : 49 ≤ h.length) : ml_mk (ml_mk h σ) τ = ml_mk h τ := by
  have e1 := ml_len (σ := σ) hl
  apply List.ext_getElem?
  intro a
  by_cases h1 : a < 15 ∨ 49 ≤ a
  · rw [ml_other (by omega) h1, ml_other hl h1, ml_other hl h1]
  · obtain ⟨k, rfl⟩ : ∃ k, a = 15 + k := ⟨a - 15, by omega⟩
    have h3 : k < 34 := by omega
    rw [ml_get (by omega) h3, ml_get hl h3]
theorem cvol_ce (σ τ : mS) : cvol (ml_ce σ) = cvol (ml_ce τ) := by
  unfold cvol ml_ce
  rw [List.map_cons, List.map_cons, List.map_map, List.map_map]
  rfl
theorem cvol_ml {h : jx_H} (σ τ : mS) : cvol (ml_mk h σ) = cvol (ml_mk h τ) := by
  unfold ml_mk
  rw [cvol_app, cvol_app, cvol_app, cvol_app, cvol_ce σ τ]
theorem cvol_cl {h : jx_H} {κ : mS} : cvol (cl_mk h κ) ≤ cvol h + 239 := by
  have e : cvol (cl_ce κ) = 239 := rfl
  have d := cvol_app (h.take 15) (h.drop 15)
  rw [List.take_append_drop] at d
  unfold cl_mk
  rw [cvol_app, e]
  omega
theorem vol_c {L : Nat} {xs : Nat → Int32} (H : jx_H) : jx_vol (jw_TT L xs) H = cvol H := by
  have e : jx_sz (jw_TT L xs) = csz := by
    funext c
    cases c with
    | inl x => rfl
    | inr x =>
      show jx_ns (jw_TT L xs) x.1 = jw_ns x.1
      rw [jw_nsT]
  unfold jx_vol cvol
  rw [e]
theorem jm_step {β : Bool} {g : jx_H} {κ σ τ : mS} {d mc : Nat} {lo : jx_L} {v : Option Value} (hg : ml_mk g σ = g) (hl : 50 ≤ g.length) (hr : jx_r (jz β) jw_M d mc (0, lo, [], ml_mk (cl_mk g κ) σ) (ml_mk (cl_mk g κ) τ, .inl v)) : jx_r (jz β) jw_M d mc (0, lo, [], cl_mk g κ) (cl_mk (ml_mk g τ) κ, .inl v) := by
  have e1 : ml_mk (cl_mk g κ) σ = cl_mk g κ := by
    rw [← cl_ml (by omega), hg]
  have e2 : ml_mk (cl_mk g κ) τ = cl_mk (ml_mk g τ) κ := (cl_ml (by omega)).symm
  rw [e1, e2] at hr
  exact hr
/-! what is written out are letters -/
theorem wL_lo {i : tI} (h : iok i) : ∀ c ∈ wL i, 0 ≤ c ∧ c ≤ 127 := by
  intro c hc
  unfold wL at hc
  split at hc
  · rw [List.mem_singleton.mp hc]; decide
  · split at hc
    · rw [List.mem_singleton.mp hc]; decide
    · split at hc
      · rw [List.mem_singleton.mp hc]; decide
      · split at hc
        · exact dec_ok c hc
        · split at hc
          · rcases List.mem_cons.mp hc with rfl | hc
            · decide
            · rcases List.mem_append.mp hc with hc | hc
              · have := h.2.2.2.1.2 c hc
                omega
              · rw [List.mem_singleton.mp hc]; decide
          · split at hc
            · rw [List.mem_singleton.mp hc]; decide
            · rw [List.mem_singleton.mp hc]; decide
theorem wC_lo (i : tI) : 0 ≤ wC i ∧ wC i ≤ 127 := by
  unfold wC
  split <;> decide
theorem wF_lo : ∀ (F : FT) (ob first : Bool), fwf F → ∀ c ∈ wF ob first F, 0 ≤ c ∧ c ≤ 127
  | .leaf, _, _, _, c, hc => absurd hc List.not_mem_nil
  | .inner _ i _ d n, ob, first, h, c, hc => by
    obtain ⟨h1, h2, h3⟩ := h
    have hc : c ∈ (bif first then [] else [44]) ++ ((bif ob then i.2.2.2 ++ [58] else []) ++ (wL i ++ ((if 5 ≤ i.1 then wF (decide (i.1 = 6)) true d ++ [wC i] else []) ++ wF ob false n))) := hc
    rcases List.mem_append.mp hc with hc | hc
    · cases first with
      | true => exact absurd hc List.not_mem_nil
      | false => rw [List.mem_singleton.mp hc]; decide
    · rcases List.mem_append.mp hc with hc | hc
      · cases ob with
        | false => exact absurd hc List.not_mem_nil
        | true =>
          rcases List.mem_append.mp hc with hc | hc
          · have := h1.2.2.2.2.2 c hc
            omega
          · rw [List.mem_singleton.mp hc]; decide
      · rcases List.mem_append.mp hc with hc | hc
        · exact wL_lo h1 c hc
        · rcases List.mem_append.mp hc with hc | hc
          · split at hc
            · rcases List.mem_append.mp hc with hc | hc
              · exact wF_lo d _ _ h2 c hc
              · rw [List.mem_singleton.mp hc]
                exact wC_lo i
            · exact absurd hc List.not_mem_nil
          · exact wF_lo n _ _ h3 c hc
theorem wV_lo {v : vT} (h : vok v) : ∀ c ∈ wV v.1 v.2, 0 ≤ c ∧ c ≤ 127 := by
  intro c hc
  unfold wV at hc
  rcases List.mem_append.mp hc with hc | hc
  · exact wL_lo h.1 c hc
  · split at hc
    · rcases List.mem_append.mp hc with hc | hc
      · exact wF_lo v.2 _ _ h.2 c hc
      · rw [List.mem_singleton.mp hc]
        exact wC_lo _
    · exact absurd hc List.not_mem_nil
/-! lengths -/
theorem sLoad_v {T : Int → Int} {n : Int} (ht : tOK T n) {v : vT} (h : sLoad T n = .inr v) : (vl v : Int) ≤ n := by
  unfold sLoad at h
  cases hx : sP T n 400 (.inl (0, 0)) with
  | inl e => rw [hx] at h; cases h
  | inr y =>
    obtain ⟨i2, F2, q⟩ := y
    rw [hx] at h
    dsimp only at h
    have k := (sP_I ht 400).1 0 0 (by omega) ht.1 (by decide) i2 F2 q hx
    have ok := ((sP_ok ht 400).1 0 0 (by omega) ht.1).1 i2 F2 q hx
    split at h
    · cases h
    · cases h
      obtain ⟨k1, k2, k3, k4⟩ := k
      have hq := ok.2.1
      omega
theorem runS_v {W : Nat} (hW : 12 ≤ W) : ∀ (l : List sT) (v : vT), (∀ st ∈ l, sgP st) → prP v → vl v ≤ W → vl (runS l v).2 ≤ W
  | [], v, _, _, hv => hv
  | st :: l, v, hs, hp, hv => by
    have h1 := hs st List.mem_cons_self
    by_cases h0 : (stg st v).1 = 0
    · have er : runS (st :: l) v = runS l (stgV (stg st v)) := if_pos h0
      rw [er]
      exact runS_v hW l _ (fun st' h' => hs st' (List.mem_cons_of_mem _ h')) (stg_p h1 hp) (stg_v hW h1 hp hv)
    · have er : runS (st :: l) v = ((stg st v).1, nulV) := if_neg h0
      rw [er]
      have := vl_nul
      show vl nulV ≤ W
      omega
theorem vI_p {v : vT} (h : vI v) : prP v := ⟨h.1, h.2.1, by have := h.2.2.1; omega, by have := vI_ct h; omega⟩
/-! ===== the state of both ===== -/
theorem sbR_x {h h' : jx_H} {κ κ' : mS} {r cap : Nat} {fb : Nat → Value} {l : List Int} (hl : 50 ≤ h.length) (hl' : 50 ≤ h'.length) (hs : sbR h κ r cap fb l) (hq : ∀ (c : Nat) (y : jx_C), 50 ≤ c → h[c]? = some y → h'[c]? = some y) (e12 : κ' 12 = κ 12) (e13 : κ' 13 = κ 13) (e14 : κ' 14 = κ 14) : sbR h' κ' r cap fb l := by
  obtain ⟨a1, a2, a3, a4, a5⟩ := hs
  refine ⟨by rw [e13]; exact a1, by rw [e12]; exact a2, a3, ?_, a5⟩
  rcases a3 with rfl | a3
  · rw [← a4]
    show some _ = some _
    rw [e14]
  · rw [cl_dy (by omega) (by omega)] at a4 ⊢
    exact hq r _ a3.1 a4
/-- the class's state -/
def cdS (g : jx_H) (κ : mS) (T : Int → Int) (n : Int) (doc res : vT) (qs : List (List sT)) (r cap : Nat) (fb : Nat → Value) : Prop := cP κ T n 0 ∧ (0 ≤ κ 7 0 ∧ κ 7 0 ≤ 16) ∧ κ 0 0 = (qs.length : Int) ∧ vR g (Xr r) (κ 1 0).toNat doc ∧ vR g (Xr r) (κ 2 0).toNat res ∧ sbR g κ r cap fb (wV res.1 res.2) ∧ ∀ (j : Nat) (l : List sT), qs[j]? = some l → qyP l ∧ ∃ b : Nat, κ 11 (j : Int) = (b : Int) ∧ qyR g (Xr r) b l
theorem cdS_fr {g g' : jx_H} {κ : mS} {T : Int → Int} {n : Int} {doc res : vT} {qs : List (List sT)} {r cap : Nat} {fb : Nat → Value} (hl : 50 ≤ g.length) (hl' : 50 ≤ g'.length) (hq : ∀ (c : Nat) (y : jx_C), 50 ≤ c → g[c]? = some y → g'[c]? = some y) (h : cdS g κ T n doc res qs r cap fb) : cdS g' κ T n doc res qs r cap fb := by
  obtain ⟨a1, a2, a3, a4, a5, a6, a7⟩ := h
  have hQ : ∀ (c : Nat) (y : jx_C), zc (Xr r) c → g[c]? = some y → zc (Xr r) c ∧ g'[c]? = some y := fun c y z hy => ⟨z, hq c y z.1 hy⟩
  refine ⟨a1, a2, a3, vR_fr hQ a4, vR_fr hQ a5, sbR_x hl hl' a6 hq rfl rfl rfl, fun j l hj => ?_⟩
  obtain ⟨b1, b, b2, b3⟩ := a7 j l hj
  exact ⟨b1, b, b2, qyR_fr hQ b3⟩
/-- what holds between two calls -/
def jI (n : Nat) (H : jx_H) : Prop := ∃ (g : jx_H) (σ κ : mS) (nL : Int) (doc res : vT) (qs : List (List sT)) (r cap : Nat) (fb f0 : Nat → Value) (W t p : Nat), H = cl_mk g κ ∧ ml_mk g σ = g ∧ 50 ≤ g.length ∧ g[49]? = some (.inl (1, 1, f0)) ∧ mdR σ nL doc res qs ∧ cdS g κ (σ 1) nL doc res qs r cap fb ∧ (vl doc ≤ W ∧ vl res ≤ W ∧ 12 ≤ W ∧ W ≤ 160 ∧ W ≤ t + 12) ∧ (nL ≤ (t : Int) ∧ 2 * (p + t) ≤ n ∧ n ≤ 1024) ∧ (g.length : Int) + sbP cap + 68 * nL ≤ 60 + 68 * t + ((p * (6 * W + 430) : Nat) : Int) ∧ (cvol g : Int) + sbV cap + 380 * nL ≤ 60000 + 380 * t + ((p * (88 * W + 2000) : Nat) : Int)
theorem jI_mk {n : Nat} {g : jx_H} {σ τ κ : mS} {nL : Int} {doc res : vT} {qs : List (List sT)} {r cap : Nat} {fb f0 : Nat → Value} {W t p : Nat} (hg : ml_mk g σ = g) (hl : 50 ≤ g.length) (h49 : g[49]? = some (.inl (1, 1, f0))) (hm : mdR τ nL doc res qs) (hc : cdS g κ (τ 1) nL doc res qs r cap fb) (hW : vl doc ≤ W ∧ vl res ≤ W ∧ 12 ≤ W ∧ W ≤ 160 ∧ W ≤ t + 12) (hn : nL ≤ (t : Int) ∧ 2 * (p + t) ≤ n ∧ n ≤ 1024) (h1 : (g.length : Int) + sbP cap + 68 * nL ≤ 60 + 68 * t + ((p * (6 * W + 430) : Nat) : Int)) (h2 : (cvol g : Int) + sbV cap + 380 * nL ≤ 60000 + 380 * t + ((p * (88 * W + 2000) : Nat) : Int)) : jI n (cl_mk (ml_mk g τ) κ) := by
  have e := ml_len (h := g) (σ := τ) (by omega)
  have hq : ∀ (c : Nat) (y : jx_C), 50 ≤ c → g[c]? = some y → (ml_mk g τ)[c]? = some y := fun c y z hy => by
    rw [ml_other (by omega) (Or.inr (by omega))]
    exact hy
  refine ⟨ml_mk g τ, τ, κ, nL, doc, res, qs, r, cap, fb, f0, W, t, p, rfl, ml_idem (by omega), by omega, ?_, hm, cdS_fr hl (by omega) hq hc, hW, hn, by rw [e]; exact h1, ?_⟩
  · rw [ml_other (by omega) (Or.inr (by omega))]
    exact h49
  · rw [cvol_ml τ σ, hg]
    exact h2
theorem jI_b1 : ∀ W, W < 161 → (524 - W) * (6 * W + 430) ≤ 505960 := by decide +kernel
theorem jI_b2 : ∀ W, W < 161 → (524 - W) * (88 * W + 2000) ≤ 5853120 := by decide +kernel
theorem jI_num {n p t W : Nat} (hW : 12 ≤ W ∧ W ≤ 160 ∧ W ≤ t + 12) (hn : 2 * (p + t) ≤ n ∧ n ≤ 1024) : p * (6 * W + 430) ≤ 505960 ∧ p * (88 * W + 2000) ≤ 5853120 := by
  have a := jI_b1 W (by omega)
  have b := jI_b2 W (by omega)
  have c : p * (6 * W + 430) ≤ (524 - W) * (6 * W + 430) := Nat.mul_le_mul_right _ (by omega)
  have d : p * (88 * W + 2000) ≤ (524 - W) * (88 * W + 2000) := Nat.mul_le_mul_right _ (by omega)
  exact ⟨Nat.le_trans c a, Nat.le_trans d b⟩
theorem jI_end {L : Nat} {xs : Nat → Int32} {n : Nat} {H : jx_H} (h : jI n H) : H.length ≤ 601024 ∧ jx_vol (jw_TT L xs) H ≤ 7293034 := by
  obtain ⟨g, σ, κ, nL, doc, res, qs, r, cap, fb, f0, W, t, p, rfl, hg, hl, h49, hm, hc, hW, hn, h1, h2⟩ := h
  have h0 := hm.2.1.1
  obtain ⟨a, b⟩ := jI_num hW.2.2 hn.2
  have c := cvol_cl (h := g) (κ := κ)
  have d : (cl_mk g κ).length = g.length := cl_len (by omega)
  rw [vol_c, d]
  constructor <;> omega
