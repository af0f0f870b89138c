/-! ===== run: a stage (printed by program: gen60.py) ===== -/
/-- a stage: the word's number or -1, the word's key, the steps -/
abbrev sT : Type := Int × List Int × List sE
def stg (st : sT) (v : vT) : Int × Option vT := if st.1 < 0 then (0, evT (some v) [] st.2.2) else doS st.1 st.2.1 v
def nulV : vT := ((0, 0, [], []), .leaf)
def stgV (r : Int × Option vT) : vT := if r.1 = 0 then r.2.getD nulV else nulV
def runS : List sT → vT → Int × vT
  | [], v => (0, v)
  | st :: l, v => if (stg st v).1 = 0 then runS l (stgV (stg st v)) else ((stg st v).1, nulV)
def stR (σ : mS) (i : Int) (st : sT) : Prop := (st.1 < 0 ∧ itR σ i st.2.2 ∧ st.2.2.length ≤ 12 ∧ σ 17 (i + st.2.2.length) = 7) ∨ ((0 ≤ st.1 ∧ st.1 ≤ 8) ∧ σ 17 i = 20 + st.1 ∧ σ 18 i = pk st.2.1 ∧ tx st.2.1 ∧ σ 17 (i + 1) = 7)
def stJ (st : sT) : Int := if st.1 < 0 then st.2.2.length else 1
def quR (σ : mS) : Int → List sT → Prop
  | _, [] => True
  | i, st :: l => stR σ i st ∧ quR σ (i + stJ st + 1) l
def quL : List sT → Int
  | [] => 0
  | st :: l => stJ st + 1 + quL l
theorem stJ_nn (st : sT) : 0 ≤ stJ st := by
  unfold stJ
  split
  · exact Int.natCast_nonneg _
  · decide
theorem quL_nn : ∀ l : List sT, 0 ≤ quL l
  | [] => Int.le_refl 0
  | st :: l => by
    have h1 := stJ_nn st
    have h2 := quL_nn l
    show 0 ≤ stJ st + 1 + quL l
    omega
theorem stR_fr {σ τ : mS} (hq : ∀ f, 17 ≤ f → f ≤ 27 → τ f = σ f) {i : Int} {st : sT} (h : stR σ i st) : stR τ i st := by
  unfold stR at h ⊢
  rw [hq 17 (by decide) (by decide), hq 18 (by decide) (by decide)]
  rcases h with ⟨h1, h2, h3⟩ | h
  · exact Or.inl ⟨h1, itR_fr hq _ _ h2, h3⟩
  · exact Or.inr h
theorem quR_fr {σ τ : mS} (hq : ∀ f, 17 ≤ f → f ≤ 27 → τ f = σ f) : ∀ (l : List sT) (i : Int), quR σ i l → quR τ i l
  | [], _, _ => trivial
  | st :: l, i, h => ⟨stR_fr hq h.1, quR_fr hq l _ h.2⟩
theorem itR_ne {σ : mS} : ∀ (l : List sE) (i : Int), itR σ i l → ∀ t : Int, 0 ≤ t → t < l.length → 0 ≤ σ 17 (i + t) ∧ σ 17 (i + t) ≤ 6
  | [], i, _, t, h0, h1 => by
    simp at h1
    omega
  | e :: l, i, h, t, h0, h1 => by
    have hl : ((e :: l).length : Int) = l.length + 1 := by simp
    by_cases ht : t = 0
    · subst ht
      rw [Int.add_zero, h.1.2.1]
      exact h.1.2.2.1
    · have := itR_ne l (i + 1) h.2 (t - 1) (by omega) (by omega)
      rw [show i + 1 + (t - 1) = i + t by omega] at this
      exact this
def rnF (σ τ : mS) : Prop := (∀ f v, Zn 0 v → 3 ≤ f → f ≤ 10 → τ f v = σ f v) ∧ (∀ f, f ∉ [3, 4, 5, 6, 7, 8, 9, 10, 11, 12, 14, 36, 37, 38, 39, 40, 41, 42, 43, 44] → τ f = σ f)
theorem rnF_refl (σ : mS) : rnF σ σ := ⟨fun _ _ _ _ _ => rfl, fun _ _ => rfl⟩
theorem rnF_trans {σ τ υ : mS} (h : rnF σ τ) (h2 : rnF τ υ) : rnF σ υ := ⟨fun f v f1 f2 hv => (h2.1 f v f1 f2 hv).trans (h.1 f v f1 f2 hv), fun f hf => (h2.2 f hf).trans (h.2 f hf)⟩
theorem rnF_it {σ τ : mS} (h : rnF σ τ) : ∀ f, 17 ≤ f → f ≤ 27 → τ f = σ f := fun f f1 f2 => h.2 f (by simp; omega)
theorem rnF_do {σ τ : mS} (h : doF σ τ) : rnF σ τ := ⟨fun f v hv f1 f2 => by
  have h1 := hv.2
  by_cases h7 : f ≤ 7
  · exact h.1 f v f1 h7 (by omega)
  · exact h.2.1 f v (by omega) f2 (by omega), fun f hf => h.2.2.1 f (by simp only [List.mem_cons, List.mem_nil_iff, or_false, not_or] at hf ⊢; omega)⟩
theorem nulV_ok : vok nulV := ⟨⟨Int.le_refl 0, by show (0 : Int) ≤ 6; decide, mr0, tx_nil, tx_nil⟩, trivial⟩
theorem stg_ok {st : sT} {v u : vT} (hv : vok v) (hc : fct v.2 ≤ 79) (he : st.1 < 0 → ∀ e ∈ st.2.2, eok1 e) (h : (stg st v).2 = some u) : vok u ∧ fct u.2 ≤ 79 := by
  unfold stg at h
  by_cases hs : st.1 < 0
  · rw [if_pos hs] at h
    exact evT_ok st.2.2 [] (some v) u 79 (he hs) (fun e h => absurd h List.not_mem_nil) (fun w hw => by cases hw; exact ⟨hv, hc⟩) h
  · rw [if_neg hs] at h
    have := doS_ok hv (by omega) h
    exact ⟨this.1, by omega⟩
theorem stgV_ok {st : sT} {v : vT} (hv : vok v) (hc : fct v.2 ≤ 79) (he : st.1 < 0 → ∀ e ∈ st.2.2, eok1 e) : vok (stgV (stg st v)) ∧ fct (stgV (stg st v)).2 ≤ 79 := by
  unfold stgV
  by_cases h0 : (stg st v).1 = 0
  · rw [if_pos h0]
    cases hg : (stg st v).2 with
    | none => exact ⟨nulV_ok, Nat.zero_le _⟩
    | some u => exact stg_ok hv hc he hg
  · rw [if_neg h0]
    exact ⟨nulV_ok, Nat.zero_le _⟩
theorem jn_ru_tail {β : Bool} {d : Nat} {h : jx_H} {τ : mS} (hl : 49 ≤ h.length) {A0 B0 : Int → Prop} (hA0 : ∀ v, A0 v → 0 ≤ v ∧ v < 680) (hB0 : ∀ v, B0 v → 0 ≤ v ∧ v < 680) {q v z i bh j r f n2 c2 : Int} {g : Option vT} (hz : z = 2 ∨ z = 3) (hAz : ∀ v, A0 v → ¬ Zn z v) (hBz : ∀ v, B0 v → ¬ Zn z v) (hr : mr r) (hf : 0 ≤ f ∧ f ≤ 2) (e42 : τ 42 0 = f) (hg : f = 0 → mO τ (zA A0 n2) (zA B0 c2) r g) (hgc : ∀ u, g = some u → fct u.2 ≤ 79) (e11 : τ 11 4 = n2) (hn : 0 ≤ n2 ∧ n2 ≤ 1040) (hc : 0 ≤ c2 ∧ c2 ≤ 1040) (hj : mr (j + 1)) :
    ∃ (τ2 : mS) (g' : Option Value), (∀ res, jx_r (jz β) jw_M (d + 5) 245 (61, [some (.ref 15), some (.int (Int32.ofInt (q))), some (.int (Int32.ofInt (170 * z))), some (.int (Int32.ofInt (5 - z))), some (.int (Int32.ofInt (j + 1))), some (.int (Int32.ofInt (bh))), some (.int (Int32.ofInt (j))), g'], [], ml_mk h τ2) res → jx_r (jz β) jw_M (d + 5) 245 (150, [some (.ref 15), some (.int (Int32.ofInt (q))), some (.int (Int32.ofInt (v))), some (.int (Int32.ofInt (z))), some (.int (Int32.ofInt (i))), some (.int (Int32.ofInt (bh))), some (.int (Int32.ofInt (j))), some (.int (Int32.ofInt (r)))], [], ml_mk h τ) res) ∧ τ2 42 0 = f ∧ mO τ2 (Zn z) (Zn z) (170 * z) (some (stgV (f, g))) ∧ rnF τ τ2 := by
  have hz0 : 0 ≤ z ∧ z < 5 := by omega
  obtain ⟨r1, r2⟩ := id hr
  have hzz : ∀ (A : Int → Prop) (n : Int), (∀ v, A v → ¬ Zn z v) → ∀ v, zA A n v → ¬ Zn z v := fun A n h v hv => by
    rcases hv with hv | hv
    · exact h v hv
    · intro hz
      have h1 := hz.2
      have h2 := hv.1
      omega
  have hcp : ∀ (υ : mS) (x : Int) (n c : Int) (u : vT), (0 ≤ n ∧ n ≤ 1041) → (0 ≤ c ∧ c ≤ 1041) → mV υ (zA A0 n) (zA B0 c) x u.1 u.2 → fct u.2 ≤ 79 → υ 42 0 = f → rnF τ υ → ∃ τ2 : mS, jx_r (jz β) jw_M (d + 4) 230 (0, [some (.ref 15), some (.int (Int32.ofInt (x))), some (.int (Int32.ofInt (z))), none, none, none, none, none, none, none], [], ml_mk h υ) (ml_mk h (τ2), .inl (some (.int (Int32.ofInt (170 * z))))) ∧ τ2 42 0 = f ∧ mO τ2 (Zn z) (Zn z) (170 * z) (some u) ∧ rnF τ τ2 := fun υ x n c u hn hc hV hu h42 hq => by
    obtain ⟨τ2, y1, y2, y3, y4, y5⟩ := jn_copy (β := β) (d := d + 3) (h := h) hl (zA_ix hA0 hn.1 (by omega)) (zA_ix hB0 hc.1 (by omega)) hz0 (hzz A0 n hAz) (hzz B0 c hBz) hV (by omega)
    refine ⟨τ2, y1, by rw [y5 42 (Or.inr (by decide)) (by decide) (by decide)]; exact h42, y2, rnF_trans hq ⟨fun f v hv f1 f2 => y3 f v (fun h => by have h1 := hv.2; have h2 := h.1; omega) f1 f2, fun f hf => ?_⟩⟩
    simp only [List.mem_cons, List.mem_nil_iff, or_false, not_or] at hf
    exact y5 f (by omega) (by omega) (by omega)
  have hnul : ∃ τ2 : mS, jx_r (jz β) jw_M (d + 4) 230 (0, [some (.ref 15), some (.int (Int32.ofInt (170 * 4 + n2))), some (.int (Int32.ofInt (z))), none, none, none, none, none, none, none], [], ml_mk h (mNode τ 4 0 0 0)) (ml_mk h (τ2), .inl (some (.int (Int32.ofInt (170 * z))))) ∧ τ2 42 0 = f ∧ mO τ2 (Zn z) (Zn z) (170 * z) (some nulV) ∧ rnF τ τ2 := by
    have hN : 170 * 4 + τ 11 4 = 170 * 4 + n2 := by rw [e11]
    exact hcp (mNode τ 4 0 0 0) (170 * 4 + n2) (n2 + 1) c2 nulV ⟨by omega, by omega⟩ ⟨by omega, by omega⟩ (mV_mk (s := []) hN (Or.inr ⟨by omega, by omega⟩) rfl) (Nat.zero_le _) (by rw [mNode_o (by decide)]; exact e42) (rnF_do (doF_nw (by omega) (mNode_nw hN)))
  obtain ⟨f0, f2⟩ := hf
  by_cases h0 : f = 0
  · have hg := hg h0
    cases g with
    | none =>
      have hr1 : r = -1 := hg
      obtain ⟨τ2, y1, y2, y3, y4⟩ := hnul
      refine ⟨τ2, some (.int (Int32.ofInt (170 * 4 + n2))), fun res kk => ?_, y2, ?_, y4⟩
      · skip
        refine jr_1 jm_245 (show jw_cd cd_245 150 = some (.iload 7) by decide +kernel) rfl ?_
        refine jr_1 jm_245 (show jw_cd cd_245 152 = some (.iconst (-1)) by decide +kernel) rfl ?_
        refine jr_1 jm_245 (show jw_cd cd_245 153 = some (.if_icmp .eq 10) by decide +kernel) (mb_t (q := .eq) (a := r) (b := -1) (t := 163) (by show r = -1; omega) ⟨by omega, by omega⟩ ⟨by omega, by omega⟩ (by decide) (by decide)) ?_
        refine jr_1 jm_245 (show jw_cd cd_245 163 = some (.aload_n 0) by decide +kernel) rfl ?_
        refine jr_1 jm_245 (show jw_cd cd_245 164 = some (.iconst 4) by decide +kernel) rfl ?_
        refine jr_1 jm_245 (show jw_cd cd_245 165 = some (.iconst 0) by decide +kernel) rfl ?_
        refine jr_1 jm_245 (show jw_cd cd_245 166 = some (.iconst 0) by decide +kernel) rfl ?_
        refine jr_1 jm_245 (F2 := (168, [some (.ref 15), some (.int (Int32.ofInt (q))), some (.int (Int32.ofInt (v))), some (.int (Int32.ofInt (z))), some (.int (Int32.ofInt (i))), some (.int (Int32.ofInt (bh))), some (.int (Int32.ofInt (j))), some (.int (Int32.ofInt (r)))], [.long (Int64.ofInt (0)), .int (Int32.ofInt (0)), .int (Int32.ofInt (0)), .int (Int32.ofInt (4)), .ref 15], ml_mk h τ)) (show jw_cd cd_245 167 = some (.lconst 0) by decide +kernel) rfl ?_
        refine jr_c jm_245 (show jw_cd cd_245 168 = some (.invokevirtual 110) by decide +kernel) (mc_v hl (n := 4) (m2 := 208) (bs := [.int (Int32.ofInt (4)), .int (Int32.ofInt (0)), .int (Int32.ofInt (0)), .long (Int64.ofInt (0))]) (r := []) (show jw_find jw_cvT 34 110 = some (4, [(16, 208)]) by decide +kernel) (by decide) rfl rfl rfl) jm_208 ⟨Nat.le_of_ble_eq_true rfl, by decide⟩ (jn_nodeM hl ⟨by decide, by decide⟩ (m := n2) e11 (by omega) (by omega)) ?_
        refine jr_1 jm_245 (show jw_cd cd_245 171 = some (.goto 5) by decide +kernel) (ju_go (t := 176) (by decide)) ?_
        refine jr_1 jm_245 (F2 := (178, [some (.ref 15), some (.int (Int32.ofInt (q))), some (.int (Int32.ofInt (v))), some (.int (Int32.ofInt (z))), some (.int (Int32.ofInt (i))), some (.int (Int32.ofInt (bh))), some (.int (Int32.ofInt (j))), some (.int (Int32.ofInt (170 * 4 + n2)))], [], ml_mk h (mNode τ 4 0 0 0))) (show jw_cd cd_245 176 = some (.istore 7) by decide +kernel) rfl ?_
        refine jr_1 jm_245 (show jw_cd cd_245 178 = some (.aload_n 0) by decide +kernel) rfl ?_
        refine jr_1 jm_245 (show jw_cd cd_245 179 = some (.iload 7) by decide +kernel) rfl ?_
        refine jr_1 jm_245 (show jw_cd cd_245 181 = some (.iload_n 3) by decide +kernel) rfl ?_
        refine jr_c jm_245 (show jw_cd cd_245 182 = some (.invokevirtual 211) by decide +kernel) (mc_v hl (n := 2) (m2 := 230) (bs := [.int (Int32.ofInt (170 * 4 + n2)), .int (Int32.ofInt (z))]) (r := []) (show jw_find jw_cvT 34 211 = some (2, [(16, 230)]) by decide +kernel) (by decide) rfl rfl rfl) jm_230 ⟨Nat.le_of_ble_eq_true rfl, by decide⟩ y1 ?_
        refine jr_1 jm_245 (F2 := (186, [some (.ref 15), some (.int (Int32.ofInt (q))), some (.int (Int32.ofInt (170 * z))), some (.int (Int32.ofInt (z))), some (.int (Int32.ofInt (i))), some (.int (Int32.ofInt (bh))), some (.int (Int32.ofInt (j))), some (.int (Int32.ofInt (170 * 4 + n2)))], [], ml_mk h τ2)) (show jw_cd cd_245 185 = some (.istore_n 2) by decide +kernel) rfl ?_
        refine jr_1 jm_245 (show jw_cd cd_245 186 = some (.iconst 5) by decide +kernel) rfl ?_
        refine jr_1 jm_245 (show jw_cd cd_245 187 = some (.iload_n 3) by decide +kernel) rfl ?_
        refine jr_1 jm_245 (show jw_cd cd_245 188 = some (.isub) by decide +kernel) (mt_sub (c := 5 - z) rfl) ?_
        refine jr_1 jm_245 (F2 := (190, [some (.ref 15), some (.int (Int32.ofInt (q))), some (.int (Int32.ofInt (170 * z))), some (.int (Int32.ofInt (5 - z))), some (.int (Int32.ofInt (i))), some (.int (Int32.ofInt (bh))), some (.int (Int32.ofInt (j))), some (.int (Int32.ofInt (170 * 4 + n2)))], [], ml_mk h τ2)) (show jw_cd cd_245 189 = some (.istore_n 3) by decide +kernel) rfl ?_
        refine jr_1 jm_245 (show jw_cd cd_245 190 = some (.iload 6) by decide +kernel) rfl ?_
        refine jr_1 jm_245 (show jw_cd cd_245 192 = some (.iconst 1) by decide +kernel) rfl ?_
        refine jr_1 jm_245 (show jw_cd cd_245 193 = some (.iadd) by decide +kernel) (mt_add (c := j + 1) rfl) ?_
        refine jr_1 jm_245 (F2 := (196, [some (.ref 15), some (.int (Int32.ofInt (q))), some (.int (Int32.ofInt (170 * z))), some (.int (Int32.ofInt (5 - z))), some (.int (Int32.ofInt (j + 1))), some (.int (Int32.ofInt (bh))), some (.int (Int32.ofInt (j))), some (.int (Int32.ofInt (170 * 4 + n2)))], [], ml_mk h τ2)) (show jw_cd cd_245 194 = some (.istore 4) by decide +kernel) rfl ?_
        refine jr_1 jm_245 (show jw_cd cd_245 196 = some (.goto (-135)) by decide +kernel) (ju_go (t := 61) (by decide)) ?_
        exact kk
      · have : stgV (f, none) = nulV := by
          unfold stgV
          split
          · rfl
          · rfl
        rw [this]
        exact y3
    | some u =>
      have hV : mV τ (zA A0 n2) (zA B0 c2) r u.1 u.2 := hg
      obtain ⟨τ2, y1, y2, y3, y4⟩ := hcp τ r n2 c2 u ⟨by omega, by omega⟩ ⟨by omega, by omega⟩ hV (hgc u rfl) e42 (rnF_refl τ)
      have hrr := zA_ix hA0 hn.1 (by omega) r hV.1
      refine ⟨τ2, some (.int (Int32.ofInt (r))), fun res kk => ?_, y2, ?_, y4⟩
      · skip
        refine jr_1 jm_245 (show jw_cd cd_245 150 = some (.iload 7) by decide +kernel) rfl ?_
        refine jr_1 jm_245 (show jw_cd cd_245 152 = some (.iconst (-1)) by decide +kernel) rfl ?_
        refine jr_1 jm_245 (show jw_cd cd_245 153 = some (.if_icmp .eq 10) by decide +kernel) (mb_f (q := .eq) (a := r) (b := -1) (by show ¬ (r = -1); omega) ⟨by omega, by omega⟩ ⟨by omega, by omega⟩ (by decide)) ?_
        refine jr_1 jm_245 (show jw_cd cd_245 156 = some (.aload_n 0) by decide +kernel) rfl ?_
        refine jr_1 jm_245 (show jw_cd cd_245 157 = some (.getfield 317) by decide +kernel) (mg_i hl (e := f) e42 (show jw_fld 34 317 16 = some 42 by decide +kernel) (by decide) (by decide)) ?_
        refine jr_1 jm_245 (show jw_cd cd_245 160 = some (.ifCond .le 14) by decide +kernel) (mz_t (q := .le) (a := f) (t := 174) (by show f ≤ 0; omega) ⟨by omega, by omega⟩ (by decide) (by decide)) ?_
        refine jr_1 jm_245 (show jw_cd cd_245 174 = some (.iload 7) by decide +kernel) rfl ?_
        refine jr_1 jm_245 (F2 := (178, [some (.ref 15), some (.int (Int32.ofInt (q))), some (.int (Int32.ofInt (v))), some (.int (Int32.ofInt (z))), some (.int (Int32.ofInt (i))), some (.int (Int32.ofInt (bh))), some (.int (Int32.ofInt (j))), some (.int (Int32.ofInt (r)))], [], ml_mk h τ)) (show jw_cd cd_245 176 = some (.istore 7) by decide +kernel) rfl ?_
        refine jr_1 jm_245 (show jw_cd cd_245 178 = some (.aload_n 0) by decide +kernel) rfl ?_
        refine jr_1 jm_245 (show jw_cd cd_245 179 = some (.iload 7) by decide +kernel) rfl ?_
        refine jr_1 jm_245 (show jw_cd cd_245 181 = some (.iload_n 3) by decide +kernel) rfl ?_
        refine jr_c jm_245 (show jw_cd cd_245 182 = some (.invokevirtual 211) by decide +kernel) (mc_v hl (n := 2) (m2 := 230) (bs := [.int (Int32.ofInt (r)), .int (Int32.ofInt (z))]) (r := []) (show jw_find jw_cvT 34 211 = some (2, [(16, 230)]) by decide +kernel) (by decide) rfl rfl rfl) jm_230 ⟨Nat.le_of_ble_eq_true rfl, by decide⟩ y1 ?_
        refine jr_1 jm_245 (F2 := (186, [some (.ref 15), some (.int (Int32.ofInt (q))), some (.int (Int32.ofInt (170 * z))), some (.int (Int32.ofInt (z))), some (.int (Int32.ofInt (i))), some (.int (Int32.ofInt (bh))), some (.int (Int32.ofInt (j))), some (.int (Int32.ofInt (r)))], [], ml_mk h τ2)) (show jw_cd cd_245 185 = some (.istore_n 2) by decide +kernel) rfl ?_
        refine jr_1 jm_245 (show jw_cd cd_245 186 = some (.iconst 5) by decide +kernel) rfl ?_
        refine jr_1 jm_245 (show jw_cd cd_245 187 = some (.iload_n 3) by decide +kernel) rfl ?_
        refine jr_1 jm_245 (show jw_cd cd_245 188 = some (.isub) by decide +kernel) (mt_sub (c := 5 - z) rfl) ?_
        refine jr_1 jm_245 (F2 := (190, [some (.ref 15), some (.int (Int32.ofInt (q))), some (.int (Int32.ofInt (170 * z))), some (.int (Int32.ofInt (5 - z))), some (.int (Int32.ofInt (i))), some (.int (Int32.ofInt (bh))), some (.int (Int32.ofInt (j))), some (.int (Int32.ofInt (r)))], [], ml_mk h τ2)) (show jw_cd cd_245 189 = some (.istore_n 3) by decide +kernel) rfl ?_
        refine jr_1 jm_245 (show jw_cd cd_245 190 = some (.iload 6) by decide +kernel) rfl ?_
        refine jr_1 jm_245 (show jw_cd cd_245 192 = some (.iconst 1) by decide +kernel) rfl ?_
        refine jr_1 jm_245 (show jw_cd cd_245 193 = some (.iadd) by decide +kernel) (mt_add (c := j + 1) rfl) ?_
        refine jr_1 jm_245 (F2 := (196, [some (.ref 15), some (.int (Int32.ofInt (q))), some (.int (Int32.ofInt (170 * z))), some (.int (Int32.ofInt (5 - z))), some (.int (Int32.ofInt (j + 1))), some (.int (Int32.ofInt (bh))), some (.int (Int32.ofInt (j))), some (.int (Int32.ofInt (r)))], [], ml_mk h τ2)) (show jw_cd cd_245 194 = some (.istore 4) by decide +kernel) rfl ?_
        refine jr_1 jm_245 (show jw_cd cd_245 196 = some (.goto (-135)) by decide +kernel) (ju_go (t := 61) (by decide)) ?_
        exact kk
      · have : stgV (f, some u) = u := by
          unfold stgV
          rw [if_pos h0]
          rfl
        rw [this]
        exact y3
  · obtain ⟨τ2, y1, y2, y3, y4⟩ := hnul
    refine ⟨τ2, some (.int (Int32.ofInt (170 * 4 + n2))), fun res kk => ?_, y2, ?_, y4⟩
    · by_cases hr1 : r = -1
      · skip
        refine jr_1 jm_245 (show jw_cd cd_245 150 = some (.iload 7) by decide +kernel) rfl ?_
        refine jr_1 jm_245 (show jw_cd cd_245 152 = some (.iconst (-1)) by decide +kernel) rfl ?_
        refine jr_1 jm_245 (show jw_cd cd_245 153 = some (.if_icmp .eq 10) by decide +kernel) (mb_t (q := .eq) (a := r) (b := -1) (t := 163) (by show r = -1; omega) ⟨by omega, by omega⟩ ⟨by omega, by omega⟩ (by decide) (by decide)) ?_
        refine jr_1 jm_245 (show jw_cd cd_245 163 = some (.aload_n 0) by decide +kernel) rfl ?_
        refine jr_1 jm_245 (show jw_cd cd_245 164 = some (.iconst 4) by decide +kernel) rfl ?_
        refine jr_1 jm_245 (show jw_cd cd_245 165 = some (.iconst 0) by decide +kernel) rfl ?_
        refine jr_1 jm_245 (show jw_cd cd_245 166 = some (.iconst 0) by decide +kernel) rfl ?_
        refine jr_1 jm_245 (F2 := (168, [some (.ref 15), some (.int (Int32.ofInt (q))), some (.int (Int32.ofInt (v))), some (.int (Int32.ofInt (z))), some (.int (Int32.ofInt (i))), some (.int (Int32.ofInt (bh))), some (.int (Int32.ofInt (j))), some (.int (Int32.ofInt (r)))], [.long (Int64.ofInt (0)), .int (Int32.ofInt (0)), .int (Int32.ofInt (0)), .int (Int32.ofInt (4)), .ref 15], ml_mk h τ)) (show jw_cd cd_245 167 = some (.lconst 0) by decide +kernel) rfl ?_
        refine jr_c jm_245 (show jw_cd cd_245 168 = some (.invokevirtual 110) by decide +kernel) (mc_v hl (n := 4) (m2 := 208) (bs := [.int (Int32.ofInt (4)), .int (Int32.ofInt (0)), .int (Int32.ofInt (0)), .long (Int64.ofInt (0))]) (r := []) (show jw_find jw_cvT 34 110 = some (4, [(16, 208)]) by decide +kernel) (by decide) rfl rfl rfl) jm_208 ⟨Nat.le_of_ble_eq_true rfl, by decide⟩ (jn_nodeM hl ⟨by decide, by decide⟩ (m := n2) e11 (by omega) (by omega)) ?_
        refine jr_1 jm_245 (show jw_cd cd_245 171 = some (.goto 5) by decide +kernel) (ju_go (t := 176) (by decide)) ?_
        refine jr_1 jm_245 (F2 := (178, [some (.ref 15), some (.int (Int32.ofInt (q))), some (.int (Int32.ofInt (v))), some (.int (Int32.ofInt (z))), some (.int (Int32.ofInt (i))), some (.int (Int32.ofInt (bh))), some (.int (Int32.ofInt (j))), some (.int (Int32.ofInt (170 * 4 + n2)))], [], ml_mk h (mNode τ 4 0 0 0))) (show jw_cd cd_245 176 = some (.istore 7) by decide +kernel) rfl ?_
        refine jr_1 jm_245 (show jw_cd cd_245 178 = some (.aload_n 0) by decide +kernel) rfl ?_
        refine jr_1 jm_245 (show jw_cd cd_245 179 = some (.iload 7) by decide +kernel) rfl ?_
        refine jr_1 jm_245 (show jw_cd cd_245 181 = some (.iload_n 3) by decide +kernel) rfl ?_
        refine jr_c jm_245 (show jw_cd cd_245 182 = some (.invokevirtual 211) by decide +kernel) (mc_v hl (n := 2) (m2 := 230) (bs := [.int (Int32.ofInt (170 * 4 + n2)), .int (Int32.ofInt (z))]) (r := []) (show jw_find jw_cvT 34 211 = some (2, [(16, 230)]) by decide +kernel) (by decide) rfl rfl rfl) jm_230 ⟨Nat.le_of_ble_eq_true rfl, by decide⟩ y1 ?_
        refine jr_1 jm_245 (F2 := (186, [some (.ref 15), some (.int (Int32.ofInt (q))), some (.int (Int32.ofInt (170 * z))), some (.int (Int32.ofInt (z))), some (.int (Int32.ofInt (i))), some (.int (Int32.ofInt (bh))), some (.int (Int32.ofInt (j))), some (.int (Int32.ofInt (170 * 4 + n2)))], [], ml_mk h τ2)) (show jw_cd cd_245 185 = some (.istore_n 2) by decide +kernel) rfl ?_
        refine jr_1 jm_245 (show jw_cd cd_245 186 = some (.iconst 5) by decide +kernel) rfl ?_
        refine jr_1 jm_245 (show jw_cd cd_245 187 = some (.iload_n 3) by decide +kernel) rfl ?_
        refine jr_1 jm_245 (show jw_cd cd_245 188 = some (.isub) by decide +kernel) (mt_sub (c := 5 - z) rfl) ?_
        refine jr_1 jm_245 (F2 := (190, [some (.ref 15), some (.int (Int32.ofInt (q))), some (.int (Int32.ofInt (170 * z))), some (.int (Int32.ofInt (5 - z))), some (.int (Int32.ofInt (i))), some (.int (Int32.ofInt (bh))), some (.int (Int32.ofInt (j))), some (.int (Int32.ofInt (170 * 4 + n2)))], [], ml_mk h τ2)) (show jw_cd cd_245 189 = some (.istore_n 3) by decide +kernel) rfl ?_
        refine jr_1 jm_245 (show jw_cd cd_245 190 = some (.iload 6) by decide +kernel) rfl ?_
        refine jr_1 jm_245 (show jw_cd cd_245 192 = some (.iconst 1) by decide +kernel) rfl ?_
        refine jr_1 jm_245 (show jw_cd cd_245 193 = some (.iadd) by decide +kernel) (mt_add (c := j + 1) rfl) ?_
        refine jr_1 jm_245 (F2 := (196, [some (.ref 15), some (.int (Int32.ofInt (q))), some (.int (Int32.ofInt (170 * z))), some (.int (Int32.ofInt (5 - z))), some (.int (Int32.ofInt (j + 1))), some (.int (Int32.ofInt (bh))), some (.int (Int32.ofInt (j))), some (.int (Int32.ofInt (170 * 4 + n2)))], [], ml_mk h τ2)) (show jw_cd cd_245 194 = some (.istore 4) by decide +kernel) rfl ?_
        refine jr_1 jm_245 (show jw_cd cd_245 196 = some (.goto (-135)) by decide +kernel) (ju_go (t := 61) (by decide)) ?_
        exact kk
      · skip
        refine jr_1 jm_245 (show jw_cd cd_245 150 = some (.iload 7) by decide +kernel) rfl ?_
        refine jr_1 jm_245 (show jw_cd cd_245 152 = some (.iconst (-1)) by decide +kernel) rfl ?_
        refine jr_1 jm_245 (show jw_cd cd_245 153 = some (.if_icmp .eq 10) by decide +kernel) (mb_f (q := .eq) (a := r) (b := -1) (by show ¬ (r = -1); omega) ⟨by omega, by omega⟩ ⟨by omega, by omega⟩ (by decide)) ?_
        refine jr_1 jm_245 (show jw_cd cd_245 156 = some (.aload_n 0) by decide +kernel) rfl ?_
        refine jr_1 jm_245 (show jw_cd cd_245 157 = some (.getfield 317) by decide +kernel) (mg_i hl (e := f) e42 (show jw_fld 34 317 16 = some 42 by decide +kernel) (by decide) (by decide)) ?_
        refine jr_1 jm_245 (show jw_cd cd_245 160 = some (.ifCond .le 14) by decide +kernel) (mz_f (q := .le) (a := f) (by show ¬ (f ≤ 0); omega) ⟨by omega, by omega⟩ (by decide)) ?_
        refine jr_1 jm_245 (show jw_cd cd_245 163 = some (.aload_n 0) by decide +kernel) rfl ?_
        refine jr_1 jm_245 (show jw_cd cd_245 164 = some (.iconst 4) by decide +kernel) rfl ?_
        refine jr_1 jm_245 (show jw_cd cd_245 165 = some (.iconst 0) by decide +kernel) rfl ?_
        refine jr_1 jm_245 (show jw_cd cd_245 166 = some (.iconst 0) by decide +kernel) rfl ?_
        refine jr_1 jm_245 (F2 := (168, [some (.ref 15), some (.int (Int32.ofInt (q))), some (.int (Int32.ofInt (v))), some (.int (Int32.ofInt (z))), some (.int (Int32.ofInt (i))), some (.int (Int32.ofInt (bh))), some (.int (Int32.ofInt (j))), some (.int (Int32.ofInt (r)))], [.long (Int64.ofInt (0)), .int (Int32.ofInt (0)), .int (Int32.ofInt (0)), .int (Int32.ofInt (4)), .ref 15], ml_mk h τ)) (show jw_cd cd_245 167 = some (.lconst 0) by decide +kernel) rfl ?_
        refine jr_c jm_245 (show jw_cd cd_245 168 = some (.invokevirtual 110) by decide +kernel) (mc_v hl (n := 4) (m2 := 208) (bs := [.int (Int32.ofInt (4)), .int (Int32.ofInt (0)), .int (Int32.ofInt (0)), .long (Int64.ofInt (0))]) (r := []) (show jw_find jw_cvT 34 110 = some (4, [(16, 208)]) by decide +kernel) (by decide) rfl rfl rfl) jm_208 ⟨Nat.le_of_ble_eq_true rfl, by decide⟩ (jn_nodeM hl ⟨by decide, by decide⟩ (m := n2) e11 (by omega) (by omega)) ?_
        refine jr_1 jm_245 (show jw_cd cd_245 171 = some (.goto 5) by decide +kernel) (ju_go (t := 176) (by decide)) ?_
        refine jr_1 jm_245 (F2 := (178, [some (.ref 15), some (.int (Int32.ofInt (q))), some (.int (Int32.ofInt (v))), some (.int (Int32.ofInt (z))), some (.int (Int32.ofInt (i))), some (.int (Int32.ofInt (bh))), some (.int (Int32.ofInt (j))), some (.int (Int32.ofInt (170 * 4 + n2)))], [], ml_mk h (mNode τ 4 0 0 0))) (show jw_cd cd_245 176 = some (.istore 7) by decide +kernel) rfl ?_
        refine jr_1 jm_245 (show jw_cd cd_245 178 = some (.aload_n 0) by decide +kernel) rfl ?_
        refine jr_1 jm_245 (show jw_cd cd_245 179 = some (.iload 7) by decide +kernel) rfl ?_
        refine jr_1 jm_245 (show jw_cd cd_245 181 = some (.iload_n 3) by decide +kernel) rfl ?_
        refine jr_c jm_245 (show jw_cd cd_245 182 = some (.invokevirtual 211) by decide +kernel) (mc_v hl (n := 2) (m2 := 230) (bs := [.int (Int32.ofInt (170 * 4 + n2)), .int (Int32.ofInt (z))]) (r := []) (show jw_find jw_cvT 34 211 = some (2, [(16, 230)]) by decide +kernel) (by decide) rfl rfl rfl) jm_230 ⟨Nat.le_of_ble_eq_true rfl, by decide⟩ y1 ?_
        refine jr_1 jm_245 (F2 := (186, [some (.ref 15), some (.int (Int32.ofInt (q))), some (.int (Int32.ofInt (170 * z))), some (.int (Int32.ofInt (z))), some (.int (Int32.ofInt (i))), some (.int (Int32.ofInt (bh))), some (.int (Int32.ofInt (j))), some (.int (Int32.ofInt (170 * 4 + n2)))], [], ml_mk h τ2)) (show jw_cd cd_245 185 = some (.istore_n 2) by decide +kernel) rfl ?_
        refine jr_1 jm_245 (show jw_cd cd_245 186 = some (.iconst 5) by decide +kernel) rfl ?_
        refine jr_1 jm_245 (show jw_cd cd_245 187 = some (.iload_n 3) by decide +kernel) rfl ?_
        refine jr_1 jm_245 (show jw_cd cd_245 188 = some (.isub) by decide +kernel) (mt_sub (c := 5 - z) rfl) ?_
        refine jr_1 jm_245 (F2 := (190, [some (.ref 15), some (.int (Int32.ofInt (q))), some (.int (Int32.ofInt (170 * z))), some (.int (Int32.ofInt (5 - z))), some (.int (Int32.ofInt (i))), some (.int (Int32.ofInt (bh))), some (.int (Int32.ofInt (j))), some (.int (Int32.ofInt (170 * 4 + n2)))], [], ml_mk h τ2)) (show jw_cd cd_245 189 = some (.istore_n 3) by decide +kernel) rfl ?_
        refine jr_1 jm_245 (show jw_cd cd_245 190 = some (.iload 6) by decide +kernel) rfl ?_
        refine jr_1 jm_245 (show jw_cd cd_245 192 = some (.iconst 1) by decide +kernel) rfl ?_
        refine jr_1 jm_245 (show jw_cd cd_245 193 = some (.iadd) by decide +kernel) (mt_add (c := j + 1) rfl) ?_
        refine jr_1 jm_245 (F2 := (196, [some (.ref 15), some (.int (Int32.ofInt (q))), some (.int (Int32.ofInt (170 * z))), some (.int (Int32.ofInt (5 - z))), some (.int (Int32.ofInt (j + 1))), some (.int (Int32.ofInt (bh))), some (.int (Int32.ofInt (j))), some (.int (Int32.ofInt (170 * 4 + n2)))], [], ml_mk h τ2)) (show jw_cd cd_245 194 = some (.istore 4) by decide +kernel) rfl ?_
        refine jr_1 jm_245 (show jw_cd cd_245 196 = some (.goto (-135)) by decide +kernel) (ju_go (t := 61) (by decide)) ?_
        exact kk
    · have : stgV (f, g) = nulV := by
        unfold stgV
        rw [if_neg h0]
      rw [this]
      exact y3
theorem mEmpty_do (σ : mS) : doF σ (mEmpty σ 4) ∧ mEmpty σ 4 11 4 = 0 ∧ mEmpty σ 4 12 4 = 0 ∧ (∀ f, f ∉ [11, 12] → mEmpty σ 4 f = σ f) := by
  unfold mEmpty
  refine ⟨⟨fun f v f1 f2 _ => by rw [su_nf (by omega), su_nf (by omega)], fun f v f1 f2 _ => by rw [su_nf (by omega), su_nf (by omega)], fun f hf => ?_, fun v hv => ⟨by rw [su_nf (by decide), su_ni hv], by rw [su_ni hv, su_nf (by decide)]⟩⟩, by rw [su_nf (by decide), su_eq], by rw [su_eq], fun f hf => ?_⟩
  · simp only [List.mem_cons, List.mem_nil_iff, or_false, not_or] at hf
    rw [su_row (by omega), su_row (by omega)]
  · simp only [List.mem_cons, List.mem_nil_iff, or_false, not_or] at hf
    rw [su_row (by omega), su_row (by omega)]
theorem doS_f (w : Int) (s : List Int) (v : vT) : 0 ≤ (doS w s v).1 ∧ (doS w s v).1 ≤ 2 := by
  unfold doS
  repeat' split
  all_goals (dsimp only; exact ⟨by decide, by decide⟩)
theorem jn_ru_st {β : Bool} {d : Nat} {h : jx_H} {σ : mS} (hl : 49 ≤ h.length) {A0 B0 : Int → Prop} (hA0 : ∀ v, A0 v → 0 ≤ v ∧ v < 680) (hB0 : ∀ v, B0 v → 0 ≤ v ∧ v < 680) {q v z i bh j : Int} {c7 : Option Value} {st : sT} {u : vT} (hz : z = 2 ∨ z = 3) (hAz : ∀ v, A0 v → ¬ Zn z v) (hBz : ∀ v, B0 v → ¬ Zn z v) (hV : mV σ A0 B0 v u.1 u.2) (hv : vok u) (hc : fct u.2 ≤ 79) (hS : stR σ i st) (hj : j = i + stJ st) (hi0 : 0 ≤ i) (hj1 : j < 1200) (e42 : σ 42 0 = 0) :
    ∃ (τ2 : mS) (g : Option Value), (∀ res, jx_r (jz β) jw_M (d + 5) 245 (61, [some (.ref 15), some (.int (Int32.ofInt (q))), some (.int (Int32.ofInt (170 * z))), some (.int (Int32.ofInt (5 - z))), some (.int (Int32.ofInt (j + 1))), some (.int (Int32.ofInt (bh))), some (.int (Int32.ofInt (j))), g], [], ml_mk h τ2) res → jx_r (jz β) jw_M (d + 5) 245 (97, [some (.ref 15), some (.int (Int32.ofInt (q))), some (.int (Int32.ofInt (v))), some (.int (Int32.ofInt (z))), some (.int (Int32.ofInt (i))), some (.int (Int32.ofInt (bh))), some (.int (Int32.ofInt (j))), c7], [], ml_mk h σ) res) ∧ τ2 42 0 = (stg st u).1 ∧ mO τ2 (Zn z) (Zn z) (170 * z) (some (stgV (stg st u))) ∧ rnF σ τ2 := by
  obtain ⟨m1, m2, m3, m4⟩ := mEmpty_do σ
  have hVe : mV (mEmpty σ 4) A0 B0 v u.1 u.2 := mV_eq (fun f f1 f2 => m4 f (by simp; omega)) hV
  rcases hS with ⟨h1, h2, h3, h4⟩ | ⟨⟨h1, h2⟩, h3, h4, h5, h6⟩
  · have hsg : stg st u = (0, evT (some u) [] st.2.2) := if_pos h1
    have hsj : stJ st = st.2.2.length := if_pos h1
    rw [hsg]
    obtain ⟨x17, hx⟩ : ∃ x, x = σ 17 i := ⟨_, rfl⟩
    have hx20 : 0 ≤ x17 ∧ x17 ≤ 7 := by
      rw [hx]
      cases hl2 : st.2.2 with
      | nil =>
        rw [hl2] at h4
        have : σ 17 i = 7 := by simpa using h4
        omega
      | cons e l =>
        rw [hl2] at h2
        have := itR_ne _ _ h2 0 (Int.le_refl 0) (by simp)
        rw [Int.add_zero] at this
        omega
    have e17 : mEmpty σ 4 17 i = x17 := by rw [m4 17 (by decide), hx]
    obtain ⟨τ, r, n2, c2, r1, r2, r3, r4, r5, r6, r7, r8⟩ := jn_goes (β := β) (d := d) (h := h) (σ := mEmpty σ 4) (nn := 0) (cc := 0) (bh := j) hl hA0 hB0 hVe hv hc (itR_fr (fun f f1 f2 => m4 f (by simp; omega)) _ _ h2) (by omega) (by omega) hi0 h3 m2 m3
    have e42' : τ 42 0 = 0 := by rw [r8.2.2.1 42 (by decide), m4 42 (by decide)]; exact e42
    obtain ⟨τ2, g', y1, y2, y3, y4⟩ := jn_ru_tail (β := β) (d := d) (h := h) (τ := τ) (q := q) (v := v) (i := i) (bh := bh) (j := j) (f := 0) hl hA0 hB0 hz hAz hBz (mO_mr (zA_ix hA0 r6.1 (by omega)) r2) ⟨by decide, by decide⟩ e42' (fun _ => r2) (fun w hw => (evT_ok st.2.2 [] (some u) w 79 (itR_ok _ _ h2) (fun e h => absurd h List.not_mem_nil) (fun w hw => by cases hw; exact ⟨hv, hc⟩) hw).2) r4 r6 r7 ⟨by omega, by omega⟩
    refine ⟨τ2, g', fun res kk => ?_, y2, y3, rnF_trans (rnF_do m1) (rnF_trans (rnF_do (doF_go r8)) y4)⟩
    have y1 := y1 res kk
    refine jr_1 jm_245 (show jw_cd cd_245 97 = some (.aload_n 0) by decide +kernel) rfl ?_
    refine jr_1 jm_245 (show jw_cd cd_245 98 = some (.iconst 4) by decide +kernel) rfl ?_
    refine jr_c jm_245 (show jw_cd cd_245 99 = some (.invokevirtual 124) by decide +kernel) (mc_v hl (n := 1) (m2 := 213) (bs := [.int (Int32.ofInt (4))]) (r := []) (show jw_find jw_cvT 34 124 = some (1, [(16, 213)]) by decide +kernel) (by decide) rfl rfl rfl) jm_213 ⟨Nat.le_of_ble_eq_true rfl, by decide⟩ (jn_empty hl ⟨by decide, by decide⟩) ?_
    refine jr_1 jm_245 (show jw_cd cd_245 102 = some (.aload_n 0) by decide +kernel) rfl ?_
    refine jr_1 jm_245 (show jw_cd cd_245 103 = some (.getfield 47) by decide +kernel) (mg_a hl (a := 28) (show jw_fld 34 47 16 = some 17 by decide +kernel) (by decide) (by decide)) ?_
    refine jr_1 jm_245 (show jw_cd cd_245 106 = some (.iload 4) by decide +kernel) rfl ?_
    refine jr_1 jm_245 (show jw_cd cd_245 108 = some (.iaload) by decide +kernel) (ma_i hl (i := i) (e := x17) 17 (by omega) (by show _ < ((1200 : Nat) : Int); omega) e17 (by decide) (by decide) (by decide)) ?_
    refine jr_1 jm_245 (show jw_cd cd_245 109 = some (.bipush 20) by decide +kernel) (mt_bi (by decide)) ?_
    refine jr_1 jm_245 (show jw_cd cd_245 111 = some (.if_icmp .lt 28) by decide +kernel) (mb_t (q := .lt) (a := x17) (b := 20) (t := 139) (by show x17 < 20; omega) ⟨by omega, by omega⟩ ⟨by omega, by omega⟩ (by decide) (by decide)) ?_
    refine jr_1 jm_245 (show jw_cd cd_245 139 = some (.aload_n 0) by decide +kernel) rfl ?_
    refine jr_1 jm_245 (show jw_cd cd_245 140 = some (.iload_n 2) by decide +kernel) rfl ?_
    refine jr_1 jm_245 (show jw_cd cd_245 141 = some (.iload 4) by decide +kernel) rfl ?_
    refine jr_1 jm_245 (show jw_cd cd_245 143 = some (.iload 6) by decide +kernel) rfl ?_
    refine jr_c jm_245 (show jw_cd cd_245 145 = some (.invokevirtual 349) by decide +kernel) (mc_v hl (n := 3) (m2 := 260) (bs := [.int (Int32.ofInt (v)), .int (Int32.ofInt (i)), .int (Int32.ofInt (j))]) (r := []) (show jw_find jw_cvT 34 349 = some (3, [(16, 260)]) by decide +kernel) (by decide) rfl rfl rfl) jm_260 ⟨Nat.le_of_ble_eq_true rfl, by decide⟩ r1 ?_
    refine jr_1 jm_245 (F2 := (150, [some (.ref 15), some (.int (Int32.ofInt (q))), some (.int (Int32.ofInt (v))), some (.int (Int32.ofInt (z))), some (.int (Int32.ofInt (i))), some (.int (Int32.ofInt (bh))), some (.int (Int32.ofInt (j))), some (.int (Int32.ofInt (r)))], [], ml_mk h τ)) (show jw_cd cd_245 148 = some (.istore 7) by decide +kernel) rfl ?_
    exact y1
  · have hsg : stg st u = doS st.1 st.2.1 u := if_neg (by omega)
    have hsj : stJ st = 1 := if_neg (by omega)
    rw [hsg]
    have e17 : mEmpty σ 4 17 i = 20 + st.1 := by rw [m4 17 (by decide), h3]
    have e18 : mEmpty σ 4 18 i = pk st.2.1 := by rw [m4 18 (by decide), h4]
    obtain ⟨τ, r, n2, c2, r1, r2, r3, r4, r5, r6, r7, r8⟩ := jn_does (β := β) (d := d + 1) (h := h) (σ := mEmpty σ 4) (w := 20 + st.1 - 20) (s := st.2.1) hl hA0 hB0 ⟨by omega, by omega⟩ h5 hVe hv hc m2 m3 (by rw [m4 42 (by decide)]; exact e42)
    rw [show 20 + st.1 - 20 = st.1 by omega] at r3 r4
    obtain ⟨τ2, g', y1, y2, y3, y4⟩ := jn_ru_tail (β := β) (d := d) (h := h) (τ := τ) (q := q) (v := v) (i := i) (bh := bh) (j := j) hl hA0 hB0 hz hAz hBz r2 (doS_f st.1 st.2.1 u) r3 r4 (fun w hw => by have := (doS_ok hv (by omega) hw).2; omega) r5 r6 r7 ⟨by omega, by omega⟩
    refine ⟨τ2, g', fun res kk => ?_, y2, y3, rnF_trans (rnF_do m1) (rnF_trans (rnF_do r8) y4)⟩
    have y1 := y1 res kk
    refine jr_1 jm_245 (show jw_cd cd_245 97 = some (.aload_n 0) by decide +kernel) rfl ?_
    refine jr_1 jm_245 (show jw_cd cd_245 98 = some (.iconst 4) by decide +kernel) rfl ?_
    refine jr_c jm_245 (show jw_cd cd_245 99 = some (.invokevirtual 124) by decide +kernel) (mc_v hl (n := 1) (m2 := 213) (bs := [.int (Int32.ofInt (4))]) (r := []) (show jw_find jw_cvT 34 124 = some (1, [(16, 213)]) by decide +kernel) (by decide) rfl rfl rfl) jm_213 ⟨Nat.le_of_ble_eq_true rfl, by decide⟩ (jn_empty hl ⟨by decide, by decide⟩) ?_
    refine jr_1 jm_245 (show jw_cd cd_245 102 = some (.aload_n 0) by decide +kernel) rfl ?_
    refine jr_1 jm_245 (show jw_cd cd_245 103 = some (.getfield 47) by decide +kernel) (mg_a hl (a := 28) (show jw_fld 34 47 16 = some 17 by decide +kernel) (by decide) (by decide)) ?_
    refine jr_1 jm_245 (show jw_cd cd_245 106 = some (.iload 4) by decide +kernel) rfl ?_
    refine jr_1 jm_245 (show jw_cd cd_245 108 = some (.iaload) by decide +kernel) (ma_i hl (i := i) (e := 20 + st.1) 17 (by omega) (by show _ < ((1200 : Nat) : Int); omega) e17 (by decide) (by decide) (by decide)) ?_
    refine jr_1 jm_245 (show jw_cd cd_245 109 = some (.bipush 20) by decide +kernel) (mt_bi (by decide)) ?_
    refine jr_1 jm_245 (show jw_cd cd_245 111 = some (.if_icmp .lt 28) by decide +kernel) (mb_f (q := .lt) (a := 20 + st.1) (b := 20) (by show ¬ (20 + st.1 < 20); omega) ⟨by omega, by omega⟩ ⟨by omega, by omega⟩ (by decide)) ?_
    refine jr_1 jm_245 (show jw_cd cd_245 114 = some (.aload_n 0) by decide +kernel) rfl ?_
    refine jr_1 jm_245 (show jw_cd cd_245 115 = some (.aload_n 0) by decide +kernel) rfl ?_
    refine jr_1 jm_245 (show jw_cd cd_245 116 = some (.getfield 47) by decide +kernel) (mg_a hl (a := 28) (show jw_fld 34 47 16 = some 17 by decide +kernel) (by decide) (by decide)) ?_
    refine jr_1 jm_245 (show jw_cd cd_245 119 = some (.iload 4) by decide +kernel) rfl ?_
    refine jr_1 jm_245 (show jw_cd cd_245 121 = some (.iaload) by decide +kernel) (ma_i hl (i := i) (e := 20 + st.1) 17 (by omega) (by show _ < ((1200 : Nat) : Int); omega) e17 (by decide) (by decide) (by decide)) ?_
    refine jr_1 jm_245 (show jw_cd cd_245 122 = some (.bipush 20) by decide +kernel) (mt_bi (by decide)) ?_
    refine jr_1 jm_245 (show jw_cd cd_245 124 = some (.isub) by decide +kernel) (mt_sub (c := 20 + st.1 - 20) rfl) ?_
    refine jr_1 jm_245 (show jw_cd cd_245 125 = some (.aload_n 0) by decide +kernel) rfl ?_
    refine jr_1 jm_245 (show jw_cd cd_245 126 = some (.getfield 50) by decide +kernel) (mg_a hl (a := 29) (show jw_fld 34 50 16 = some 18 by decide +kernel) (by decide) (by decide)) ?_
    refine jr_1 jm_245 (show jw_cd cd_245 129 = some (.iload 4) by decide +kernel) rfl ?_
    refine jr_1 jm_245 (show jw_cd cd_245 131 = some (.laload) by decide +kernel) (ma_j hl (i := i) (e := pk st.2.1) 18 (by omega) (by show _ < ((1200 : Nat) : Int); omega) e18 (by decide) (by decide) (by decide)) ?_
    refine jr_1 jm_245 (show jw_cd cd_245 132 = some (.iload_n 2) by decide +kernel) rfl ?_
    refine jr_c jm_245 (show jw_cd cd_245 133 = some (.invokevirtual 345) by decide +kernel) (mc_v hl (n := 3) (m2 := 246) (bs := [.int (Int32.ofInt (20 + st.1 - 20)), .long (Int64.ofInt (pk st.2.1)), .int (Int32.ofInt (v))]) (r := []) (show jw_find jw_cvT 34 345 = some (3, [(16, 246)]) by decide +kernel) (by decide) rfl rfl rfl) jm_246 ⟨Nat.le_of_ble_eq_true rfl, by decide⟩ r1 ?_
    refine jr_1 jm_245 (show jw_cd cd_245 136 = some (.goto 12) by decide +kernel) (ju_go (t := 148) (by decide)) ?_
    refine jr_1 jm_245 (F2 := (150, [some (.ref 15), some (.int (Int32.ofInt (q))), some (.int (Int32.ofInt (v))), some (.int (Int32.ofInt (z))), some (.int (Int32.ofInt (i))), some (.int (Int32.ofInt (bh))), some (.int (Int32.ofInt (j))), some (.int (Int32.ofInt (r)))], [], ml_mk h τ)) (show jw_cd cd_245 148 = some (.istore 7) by decide +kernel) rfl ?_
    exact y1
