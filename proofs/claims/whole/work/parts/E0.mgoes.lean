/-! ===== goes (printed by program: gen58.py) ===== -/
/-- the slots as they stand between two steps -/
def goR (σ : mS) (A0 B0 : Int → Prop) (bs : List (List (Int × Bool))) (top : List lT) (nn cc : Int) : Prop := lvS σ bs ∧ tpR σ (zA A0 nn) (zA B0 cc) (tot bs) top ∧ (∀ t ∈ top, vokO t.2) ∧ (∀ t ∈ top, 0 ≤ t.1 ∧ t.1 ≤ 400) ∧ (∀ b ∈ bs, ∀ s ∈ b, 0 ≤ s.1 ∧ s.1 ≤ 400) ∧ σ 36 0 = tot bs + top.length ∧ σ 41 0 = (bs.length : Int) + 1 ∧ σ 11 4 = nn ∧ σ 12 4 = cc ∧ 0 ≤ nn ∧ 0 ≤ cc ∧ tot bs + wT top ≤ 80
theorem jn_go_fin {β : Bool} {d : Nat} {h : jx_H} {σ : mS} (hl : 49 ≤ h.length) {A0 B0 : Int → Prop} (hA0 : ∀ v, A0 v → 0 ≤ v ∧ v < 680) (hB0 : ∀ v, B0 v → 0 ≤ v ∧ v < 680) {v0 fi bh mv i w6 w7 pb nn cc : Int} {c6 c7 c8 : Option Value} {many : Bool} {bs : List (List (Int × Bool))} {top : List lT} (hG : goR σ A0 B0 bs top nn cc) (hm : mv = if many = true then 1 else 0) (hbo : many = false → 1 ≤ botL top.length bs) (hbl : bs.length < 15) (hpb : (bs = [] ∧ pb = 0) ∨ pb = 80) (hn1 : nn + pb + mv ≤ 1040) (hc1 : cc + pb + 80 * mv ≤ 1040) :
    ∃ (τ2 : mS) (w n2 c2 : Int), (∀ res, jx_r (jz β) jw_M (d + 2) 260 (84, [some (.ref 15), some (.int (Int32.ofInt (v0))), some (.int (Int32.ofInt (fi))), some (.int (Int32.ofInt (bh))), some (.int (Int32.ofInt (mv))), some (.int (Int32.ofInt (i))), some (.int (Int32.ofInt (w6))), some (.int (Int32.ofInt (w7))), some (.int (Int32.ofInt (w)))], [], ml_mk h τ2) res → jx_r (jz β) jw_M (d + 2) 260 (60, [some (.ref 15), some (.int (Int32.ofInt (v0))), some (.int (Int32.ofInt (fi))), some (.int (Int32.ofInt (bh))), some (.int (Int32.ofInt (mv))), some (.int (Int32.ofInt (i))), some (.int (Int32.ofInt (w6))), some (.int (Int32.ofInt (w7))), c8], [], ml_mk h σ) res) ∧ jx_r (jz β) jw_M (d + 2) 260 (151, [some (.ref 15), some (.int (Int32.ofInt (v0))), some (.int (Int32.ofInt (fi))), some (.int (Int32.ofInt (bh))), some (.int (Int32.ofInt (mv))), some (.int (Int32.ofInt (i))), c6, c7, c8], [], ml_mk h σ) (ml_mk h (τ2), .inl (some (.int (Int32.ofInt (w))))) ∧ mO τ2 (zA A0 n2) (zA B0 c2) w (finV many (clsA top bs)) ∧ vokO (finV many (clsA top bs)) ∧ τ2 11 4 = n2 ∧ τ2 12 4 = c2 ∧ (nn ≤ n2 ∧ n2 ≤ nn + pb + mv) ∧ (cc ≤ c2 ∧ c2 ≤ cc + pb + 80 * mv) ∧ goF σ τ2 := by
  obtain ⟨g1, g2, g3, g4, g5, g6, g7, g8, g9, g10, g11, g12⟩ := hG
  have hwl := wT_len top
  have ht0 := tot_nn bs
  have hpb0 : 0 ≤ pb ∧ tot bs ≤ pb := by
    rcases hpb with ⟨h1, h2⟩ | h1
    · rw [h1]
      exact ⟨by omega, by rw [h2]; exact Int.le_refl 0⟩
    · exact ⟨by omega, by omega⟩
  have hm0 : 0 ≤ mv ∧ mv ≤ 1 := by
    rw [hm]
    exact if_mr ⟨by decide, by decide⟩ ⟨by decide, by decide⟩
  obtain ⟨τ1, n1, c1, r1, r2, r3, r4, r5, r6, r7, r8, r9, r10, r11⟩ := jn_close (β := β) (d := d) (h := h) hl hA0 hB0 bs top nn cc σ none none none none none g1 g2 g3 g4 g5 g6 (by omega) g7 hbl g8 g9 g10 g11 (by omega) (by
    rcases hpb with ⟨h1, h2⟩ | h1
    · exact Or.inl h1
    · exact Or.inr (by omega))
  have hcb : c1 ≤ cc + pb := by
    rcases hpb with ⟨h1, h2⟩ | h1
    · have := r10.2.1 h1
      omega
    · have := r10.2.2
      omega
  have hcl := clsA_len bs top
  have hb80 : ∀ (bs : List (List (Int × Bool))) (n : Nat), (botL n bs : Int) ≤ tot bs + n := fun bs => by
    induction bs with
    | nil => intro n; show (n : Int) ≤ 0 + n; omega
    | cons b bs ih =>
      intro n
      have h1 := ih b.length
      have h2 := tot_cons b bs
      show (botL b.length bs : Int) ≤ _
      omega
  have hb8 := hb80 bs top.length
  cases many with
  | true =>
    have hm : mv = 1 := by rw [hm]; rfl
    obtain ⟨τ2, c2, y1, y2, y3, y4, y5, y6, y7⟩ := jn_gathered (β := β) (d := d) (h := h) (sl := (clsA top bs).length) hl hA0 hB0 r2 r3 r4 rfl (by omega) r7 r8 (by omega) (by omega) (by omega) (by omega)
    refine ⟨τ2, 170 * 4 + n1, n1 + 1, c2, fun res kk => ?_, ?_, y7, ?_, y4, y5, ⟨by omega, by omega⟩, ⟨by omega, by omega⟩, goF_trans (goF_cl g10 g11 r11) (goF_cl (by omega) (by omega) y2)⟩
    · skip
      refine jr_1 jm_260 (show jw_cd cd_260 60 = some (.aload_n 0) by decide +kernel) rfl ?_
      refine jr_c jm_260 (show jw_cd cd_260 61 = some (.invokevirtual 293) by decide +kernel) (mc_v hl (n := 0) (m2 := 262) (bs := []) (r := []) (show jw_find jw_cvT 34 293 = some (0, [(16, 262)]) by decide +kernel) (by decide) rfl rfl rfl) jm_262 ⟨Nat.le_of_ble_eq_true rfl, by decide⟩ r1 ?_
      refine jr_1 jm_260 (show jw_cd cd_260 64 = some (.iload 4) by decide +kernel) rfl ?_
      refine jr_1 jm_260 (show jw_cd cd_260 66 = some (.ifCond .eq 10) by decide +kernel) (mz_f (q := .eq) (a := mv) (by show ¬ (mv = 0); omega) ⟨by omega, by omega⟩ (by decide)) ?_
      refine jr_1 jm_260 (show jw_cd cd_260 69 = some (.aload_n 0) by decide +kernel) rfl ?_
      refine jr_c jm_260 (show jw_cd cd_260 70 = some (.invokevirtual 296) by decide +kernel) (mc_v hl (n := 0) (m2 := 264) (bs := []) (r := []) (show jw_find jw_cvT 34 296 = some (0, [(16, 264)]) by decide +kernel) (by decide) rfl rfl rfl) jm_264 ⟨Nat.le_of_ble_eq_true rfl, by decide⟩ y1 ?_
      refine jr_1 jm_260 (show jw_cd cd_260 73 = some (.goto 9) by decide +kernel) (ju_go (t := 82) (by decide)) ?_
      refine jr_1 jm_260 (F2 := (84, [some (.ref 15), some (.int (Int32.ofInt (v0))), some (.int (Int32.ofInt (fi))), some (.int (Int32.ofInt (bh))), some (.int (Int32.ofInt (mv))), some (.int (Int32.ofInt (i))), some (.int (Int32.ofInt (w6))), some (.int (Int32.ofInt (w7))), some (.int (Int32.ofInt (170 * 4 + n1)))], [], ml_mk h τ2)) (show jw_cd cd_260 82 = some (.istore 8) by decide +kernel) rfl ?_
      exact kk
    · skip
      refine jr_1 jm_260 (show jw_cd cd_260 151 = some (.aload_n 0) by decide +kernel) rfl ?_
      refine jr_c jm_260 (show jw_cd cd_260 152 = some (.invokevirtual 293) by decide +kernel) (mc_v hl (n := 0) (m2 := 262) (bs := []) (r := []) (show jw_find jw_cvT 34 293 = some (0, [(16, 262)]) by decide +kernel) (by decide) rfl rfl rfl) jm_262 ⟨Nat.le_of_ble_eq_true rfl, by decide⟩ r1 ?_
      refine jr_1 jm_260 (show jw_cd cd_260 155 = some (.iload 4) by decide +kernel) rfl ?_
      refine jr_1 jm_260 (show jw_cd cd_260 157 = some (.ifCond .eq 10) by decide +kernel) (mz_f (q := .eq) (a := mv) (by show ¬ (mv = 0); omega) ⟨by omega, by omega⟩ (by decide)) ?_
      refine jr_1 jm_260 (show jw_cd cd_260 160 = some (.aload_n 0) by decide +kernel) rfl ?_
      refine jr_c jm_260 (show jw_cd cd_260 161 = some (.invokevirtual 296) by decide +kernel) (mc_v hl (n := 0) (m2 := 264) (bs := []) (r := []) (show jw_find jw_cvT 34 296 = some (0, [(16, 264)]) by decide +kernel) (by decide) rfl rfl rfl) jm_264 ⟨Nat.le_of_ble_eq_true rfl, by decide⟩ y1 ?_
      refine jr_1 jm_260 (show jw_cd cd_260 164 = some (.goto 9) by decide +kernel) (ju_go (t := 173) (by decide)) ?_
      exact jr_v jm_260 (show jw_cd cd_260 173 = some (.ireturn) by decide +kernel) rfl
    · intro i2 F hiF
      have hiF : some (lsV (gth (clsA top bs))) = some (i2, F) := hiF
      have h1 := Option.some.inj hiF
      have h2 := lsV_ok (gth_ok r3)
      rw [h1] at h2
      exact h2
  | false =>
    have hm : mv = 0 := by rw [hm]; rfl
    have hbo := hbo rfl
    obtain ⟨w, hw⟩ : ∃ w, w = τ1 37 0 := ⟨_, rfl⟩
    have e37 : τ1 37 0 = w := hw.symm
    have hfin : mO τ1 (zA A0 n1) (zA B0 c1) w (finV false (clsA top bs)) ∧ vokO (finV false (clsA top bs)) := by
      cases hcs : clsA top bs with
      | nil =>
        rw [hcs] at hcl
        have : botL top.length bs = 0 := hcl.symm
        omega
      | cons t l =>
        rw [hcs] at r2 r3
        exact ⟨by rw [hw]; exact r2.1.2, r3 t (List.mem_cons_self ..)⟩
    refine ⟨τ1, w, n1, c1, fun res kk => ?_, ?_, hfin.1, hfin.2, r7, r8, ⟨by omega, by omega⟩, ⟨by omega, by omega⟩, goF_cl g10 g11 r11⟩
    · skip
      refine jr_1 jm_260 (show jw_cd cd_260 60 = some (.aload_n 0) by decide +kernel) rfl ?_
      refine jr_c jm_260 (show jw_cd cd_260 61 = some (.invokevirtual 293) by decide +kernel) (mc_v hl (n := 0) (m2 := 262) (bs := []) (r := []) (show jw_find jw_cvT 34 293 = some (0, [(16, 262)]) by decide +kernel) (by decide) rfl rfl rfl) jm_262 ⟨Nat.le_of_ble_eq_true rfl, by decide⟩ r1 ?_
      refine jr_1 jm_260 (show jw_cd cd_260 64 = some (.iload 4) by decide +kernel) rfl ?_
      refine jr_1 jm_260 (show jw_cd cd_260 66 = some (.ifCond .eq 10) by decide +kernel) (mz_t (q := .eq) (a := mv) (t := 76) (by show mv = 0; omega) ⟨by omega, by omega⟩ (by decide) (by decide)) ?_
      refine jr_1 jm_260 (show jw_cd cd_260 76 = some (.aload_n 0) by decide +kernel) rfl ?_
      refine jr_1 jm_260 (show jw_cd cd_260 77 = some (.getfield 89) by decide +kernel) (mg_a hl (a := 42) (show jw_fld 34 89 16 = some 37 by decide +kernel) (by decide) (by decide)) ?_
      refine jr_1 jm_260 (show jw_cd cd_260 80 = some (.iconst 0) by decide +kernel) rfl ?_
      refine jr_1 jm_260 (show jw_cd cd_260 81 = some (.iaload) by decide +kernel) (ma_i hl (i := 0) (e := w) 37 (by omega) (by show _ < ((400 : Nat) : Int); omega) e37 (by decide) (by decide) (by decide)) ?_
      refine jr_1 jm_260 (F2 := (84, [some (.ref 15), some (.int (Int32.ofInt (v0))), some (.int (Int32.ofInt (fi))), some (.int (Int32.ofInt (bh))), some (.int (Int32.ofInt (mv))), some (.int (Int32.ofInt (i))), some (.int (Int32.ofInt (w6))), some (.int (Int32.ofInt (w7))), some (.int (Int32.ofInt (w)))], [], ml_mk h τ1)) (show jw_cd cd_260 82 = some (.istore 8) by decide +kernel) rfl ?_
      exact kk
    · skip
      refine jr_1 jm_260 (show jw_cd cd_260 151 = some (.aload_n 0) by decide +kernel) rfl ?_
      refine jr_c jm_260 (show jw_cd cd_260 152 = some (.invokevirtual 293) by decide +kernel) (mc_v hl (n := 0) (m2 := 262) (bs := []) (r := []) (show jw_find jw_cvT 34 293 = some (0, [(16, 262)]) by decide +kernel) (by decide) rfl rfl rfl) jm_262 ⟨Nat.le_of_ble_eq_true rfl, by decide⟩ r1 ?_
      refine jr_1 jm_260 (show jw_cd cd_260 155 = some (.iload 4) by decide +kernel) rfl ?_
      refine jr_1 jm_260 (show jw_cd cd_260 157 = some (.ifCond .eq 10) by decide +kernel) (mz_t (q := .eq) (a := mv) (t := 167) (by show mv = 0; omega) ⟨by omega, by omega⟩ (by decide) (by decide)) ?_
      refine jr_1 jm_260 (show jw_cd cd_260 167 = some (.aload_n 0) by decide +kernel) rfl ?_
      refine jr_1 jm_260 (show jw_cd cd_260 168 = some (.getfield 89) by decide +kernel) (mg_a hl (a := 42) (show jw_fld 34 89 16 = some 37 by decide +kernel) (by decide) (by decide)) ?_
      refine jr_1 jm_260 (show jw_cd cd_260 171 = some (.iconst 0) by decide +kernel) rfl ?_
      refine jr_1 jm_260 (show jw_cd cd_260 172 = some (.iaload) by decide +kernel) (ma_i hl (i := 0) (e := w) 37 (by omega) (by show _ < ((400 : Nat) : Int); omega) e37 (by decide) (by decide) (by decide)) ?_
      exact jr_v jm_260 (show jw_cd cd_260 173 = some (.ireturn) by decide +kernel) rfl
theorem bind_ok {x : Option vT} {acc : List sE} (hx : ∀ v, x = some v → vok v ∧ fct v.2 ≤ 79) (ha : ∀ e ∈ acc, eok1 e) : ∀ v, x.bind (evS acc) = some v → vok v ∧ fct v.2 ≤ 79 := fun w hw => by
  cases x with
  | none => cases hw
  | some v =>
    have h1 := hx v rfl
    have h2 := evS_ok acc v w ha h1.1 hw
    exact ⟨h2.1, by omega⟩
theorem jn_go_loop {β : Bool} {d : Nat} {h : jx_H} (hl : 49 ≤ h.length) {A0 B0 : Int → Prop} (hA0 : ∀ v, A0 v → 0 ≤ v ∧ v < 680) (hB0 : ∀ v, B0 v → 0 ≤ v ∧ v < 680) {v0 fi bh : Int} (hbh : bh ≤ 1200) : ∀ (l : List sE) (i nn cc mv pb : Int) (many : Bool) (x : Option vT) (acc : List sE) (bs : List (List (Int × Bool))) (top : List lT) (σ : mS) (c6 c7 c8 : Option Value), goR σ A0 B0 bs top nn cc → evI many top bs x acc → (∀ v, x = some v → vok v ∧ fct v.2 ≤ 79) → (∀ e ∈ acc, eok1 e) → itR σ i l → i + l.length = bh → 0 ≤ i → mv = (if many = true then 1 else 0) → (many = false → 1 ≤ botL top.length bs) → bs.length + l.length ≤ 12 → ((bs = [] ∧ pb = 0) ∨ pb = 80) → nn + pb + mv + 81 * l.length ≤ 1040 → cc + pb + 80 * mv + 80 * l.length ≤ 1040 →
    ∃ (τ : mS) (w n2 c2 : Int), jx_r (jz β) jw_M (d + 4) 260 (29, [some (.ref 15), some (.int (Int32.ofInt (v0))), some (.int (Int32.ofInt (fi))), some (.int (Int32.ofInt (bh))), some (.int (Int32.ofInt (mv))), some (.int (Int32.ofInt (i))), c6, c7, c8], [], ml_mk h σ) (ml_mk h (τ), .inl (some (.int (Int32.ofInt (w))))) ∧ mO τ (zA A0 n2) (zA B0 c2) w (evT x acc l) ∧ vokO (evT x acc l) ∧ τ 11 4 = n2 ∧ τ 12 4 = c2 ∧ (0 ≤ n2 ∧ n2 ≤ 1040) ∧ (0 ≤ c2 ∧ c2 ≤ 1040) ∧ goF σ τ
  | [], i, nn, cc, mv, pb, many, x, acc, bs, top, σ, c6, c7, c8, hG, hE, hx, ha, hI, hi, hi0, hm, hbo, hbl, hpb, hn1, hc1 => by
    have hi : i = bh := by simp at hi; exact hi
    obtain ⟨τ, w, n2, c2, r1, r2, r3, r4, r5, r6, r7, r8, r9⟩ := jn_go_fin (β := β) (d := d + 2) (h := h) (σ := σ) (v0 := v0) (fi := fi) (bh := bh) (i := i) (w6 := 0) (w7 := 0) (c6 := c6) (c7 := c7) (c8 := c8) hl hA0 hB0 hG hm hbo (by have : bs.length + 0 ≤ 12 := hbl; omega) hpb (by simp at hn1; omega) (by simp at hc1; omega)
    rw [evI_end hE] at r3 r4
    have hg10 := hG.2.2.2.2.2.2.2.2.2
    simp at hn1 hc1
    refine ⟨τ, w, n2, c2, ?_, r3, r4, r5, r6, ⟨by omega, by omega⟩, ⟨by omega, by omega⟩, r9⟩
    refine jr_1 jm_260 (show jw_cd cd_260 29 = some (.iload 5) by decide +kernel) rfl ?_
    refine jr_1 jm_260 (show jw_cd cd_260 31 = some (.iload_n 3) by decide +kernel) rfl ?_
    refine jr_1 jm_260 (show jw_cd cd_260 32 = some (.if_icmp .ge 119) by decide +kernel) (mb_t (q := .ge) (a := i) (b := bh) (t := 151) (by show bh ≤ i; omega) ⟨by omega, by omega⟩ ⟨by omega, by omega⟩ (by decide) (by decide)) ?_
    exact r2
  | e :: l, i, nn, cc, mv, pb, many, x, acc, bs, top, σ, c6, c7, c8, hG, hE, hx, ha, hI, hi, hi0, hm, hbo, hbl, hpb, hn1, hc1 => by
    have hlen : (((e :: l).length : Nat) : Int) = l.length + 1 := by simp
    have hbl : bs.length + (l.length + 1) ≤ 12 := hbl
    rw [hlen] at hi hn1 hc1
    have hok := itR_ok _ _ hI e (List.mem_cons_self ..)
    obtain ⟨⟨⟨i0, i1⟩, e17, ⟨e0, e6⟩, hpk, hpr⟩, hI2⟩ := hI
    obtain ⟨s, hs⟩ : ∃ s, s = σ 19 i := ⟨_, rfl⟩
    have e19 : σ 19 i = s := hs.symm
    rw [e19] at hpk hpr
    obtain ⟨g1, g2, g3, g4, g5, g6, g7, g8, g9, g10, g11, g12⟩ := id hG
    have hwl := wT_len top
    have ht0 := tot_nn bs
    have hm0 : 0 ≤ mv ∧ mv ≤ 1 := by
      rw [hm]
      exact if_mr ⟨by decide, by decide⟩ ⟨by decide, by decide⟩
    have hpb0 : 0 ≤ pb ∧ pb ≤ 80 := by
      rcases hpb with ⟨h1, h2⟩ | h1
      · omega
      · omega
    have ha2 : ∀ e' ∈ acc ++ [e], eok1 e' := fun e' he' => by
      rcases List.mem_append.mp he' with he' | he'
      · exact ha e' he'
      · rw [List.mem_singleton.mp he']
        exact hok
    have hf390 : ∀ t ∈ top, ∀ v, t.2 = some v → vok v ∧ fct v.2 ≤ 390 := fun t ht v hv => by
      have h1 := wT_mem top t ht
      rw [hv] at h1
      have h1 : fct v.2 + 1 ≤ wT top := h1
      exact ⟨g3 t ht v.1 v.2 hv, by omega⟩
    by_cases he6 : e.1 = 6
    · have hev : evT x acc (e :: l) = evT (x.bind (evS acc)) [e] l := if_pos he6
      obtain ⟨τ2, w, n2, c2, r1, r2, r3, r4, r5, r6, r7, r8, r9⟩ := jn_go_fin (β := β) (d := d + 2) (h := h) (σ := σ) (v0 := v0) (fi := fi) (bh := bh) (i := i) (w6 := e.1) (w7 := s) (c6 := c6) (c7 := c7) (c8 := c8) hl hA0 hB0 hG hm hbo (by omega) hpb (by omega) (by omega)
      rw [evI_end hE] at r3 r4
      rw [hev]
      have hbd := bind_ok hx ha
      cases hy : x.bind (evS acc) with
      | none =>
        rw [hy] at r3
        have hw : w = -1 := r3
        subst hw
        refine ⟨τ2, -1, n2, c2, ?_, by rw [evT_none]; exact rfl, by rw [evT_none]; exact (fun _ _ z => by cases z), r5, r6, ⟨by omega, by omega⟩, ⟨by omega, by omega⟩, r9⟩
        refine jr_1 jm_260 (show jw_cd cd_260 29 = some (.iload 5) by decide +kernel) rfl ?_
        refine jr_1 jm_260 (show jw_cd cd_260 31 = some (.iload_n 3) by decide +kernel) rfl ?_
        refine jr_1 jm_260 (show jw_cd cd_260 32 = some (.if_icmp .ge 119) by decide +kernel) (mb_f (q := .ge) (a := i) (b := bh) (by show ¬ (bh ≤ i); omega) ⟨by omega, by omega⟩ ⟨by omega, by omega⟩ (by decide)) ?_
        refine jr_1 jm_260 (show jw_cd cd_260 35 = some (.aload_n 0) by decide +kernel) rfl ?_
        refine jr_1 jm_260 (show jw_cd cd_260 36 = some (.getfield 47) by decide +kernel) (mg_a hl (a := 28) (show jw_fld 34 47 16 = some 17 by decide +kernel) (by decide) (by decide)) ?_
        refine jr_1 jm_260 (show jw_cd cd_260 39 = some (.iload 5) by decide +kernel) rfl ?_
        refine jr_1 jm_260 (show jw_cd cd_260 41 = some (.iaload) by decide +kernel) (ma_i hl (i := i) (e := e.1) 17 (by omega) (by show _ < ((1200 : Nat) : Int); omega) e17 (by decide) (by decide) (by decide)) ?_
        refine jr_1 jm_260 (F2 := (44, [some (.ref 15), some (.int (Int32.ofInt (v0))), some (.int (Int32.ofInt (fi))), some (.int (Int32.ofInt (bh))), some (.int (Int32.ofInt (mv))), some (.int (Int32.ofInt (i))), some (.int (Int32.ofInt (e.1))), c7, c8], [], ml_mk h σ)) (show jw_cd cd_260 42 = some (.istore 6) by decide +kernel) rfl ?_
        refine jr_1 jm_260 (show jw_cd cd_260 44 = some (.aload_n 0) by decide +kernel) rfl ?_
        refine jr_1 jm_260 (show jw_cd cd_260 45 = some (.getfield 53) by decide +kernel) (mg_a hl (a := 30) (show jw_fld 34 53 16 = some 19 by decide +kernel) (by decide) (by decide)) ?_
        refine jr_1 jm_260 (show jw_cd cd_260 48 = some (.iload 5) by decide +kernel) rfl ?_
        refine jr_1 jm_260 (show jw_cd cd_260 50 = some (.iaload) by decide +kernel) (ma_i hl (i := i) (e := s) 19 (by omega) (by show _ < ((1200 : Nat) : Int); omega) e19 (by decide) (by decide) (by decide)) ?_
        refine jr_1 jm_260 (F2 := (53, [some (.ref 15), some (.int (Int32.ofInt (v0))), some (.int (Int32.ofInt (fi))), some (.int (Int32.ofInt (bh))), some (.int (Int32.ofInt (mv))), some (.int (Int32.ofInt (i))), some (.int (Int32.ofInt (e.1))), some (.int (Int32.ofInt (s))), c8], [], ml_mk h σ)) (show jw_cd cd_260 51 = some (.istore 7) by decide +kernel) rfl ?_
        refine jr_1 jm_260 (show jw_cd cd_260 53 = some (.iload 6) by decide +kernel) rfl ?_
        refine jr_1 jm_260 (show jw_cd cd_260 55 = some (.bipush 6) by decide +kernel) (mt_bi (by decide)) ?_
        refine jr_1 jm_260 (show jw_cd cd_260 57 = some (.if_icmp .ne 58) by decide +kernel) (mb_f (q := .ne) (a := e.1) (b := 6) (by show ¬ (¬ (e.1 = 6)); omega) ⟨by omega, by omega⟩ ⟨by omega, by omega⟩ (by decide)) ?_
        refine r1 _ ?_
        refine jr_1 jm_260 (show jw_cd cd_260 84 = some (.iload 8) by decide +kernel) rfl ?_
        refine jr_1 jm_260 (show jw_cd cd_260 86 = some (.iconst (-1)) by decide +kernel) rfl ?_
        refine jr_1 jm_260 (show jw_cd cd_260 87 = some (.if_icmp .eq 14) by decide +kernel) (mb_t (q := .eq) (a := -1) (b := -1) (t := 101) (by show -1 = -1; omega) ⟨by omega, by omega⟩ ⟨by omega, by omega⟩ (by decide) (by decide)) ?_
        refine jr_1 jm_260 (show jw_cd cd_260 101 = some (.iconst (-1)) by decide +kernel) rfl ?_
        exact jr_v jm_260 (show jw_cd cd_260 102 = some (.ireturn) by decide +kernel) rfl
      | some vv =>
        obtain ⟨j, F⟩ := vv
        rw [hy] at r3 r4 hbd
        obtain ⟨hvk, hfc⟩ := hbd (j, F) rfl
        have hfc : fct F ≤ 79 := hfc
        have hV : mV τ2 (zA A0 n2) (zA B0 c2) w j F := r3
        have e3 : τ2 3 w = j.1 := hV.2.1.1
        have j0 : 0 ≤ j.1 := hvk.1.1
        have j6 : j.1 ≤ 6 := hvk.1.2.1
        have hAx : mIx (zA A0 n2) := zA_ix hA0 (by omega) (by omega)
        have hBx : mIx (zA B0 c2) := zA_ix hB0 (by omega) (by omega)
        have hwr := hAx w hV.1
        by_cases h5 : j.1 = 5
        · have hsf : selS e F = flatS F := by
            unfold selS
            rw [if_neg (by omega), if_neg (by omega), if_pos he6]
          have hww : wS (flatS F) ≤ fct F := by rw [← hsf]; exact selS_w hok F
          have hwl2 := wS_len (flatS F)
          obtain ⟨τ3, u1, u2, u3, u4, u5, u6⟩ := jn_flatten (β := β) (d := d + 2) (h := h) hl hAx hBx hV hvk.2 (by omega)
          have hgf := goF_trans r9 (goF_q u2)
          have hG3 : goR τ3 A0 B0 [] ((flatS F).map fun u => (0, some u)) n2 c2 := by
            refine ⟨u5, u6, fun t ht => ?_, fun t ht => ?_, fun b hb => absurd hb List.not_mem_nil, ?_, u4, by rw [u2 11 (by decide)]; exact r5, by rw [u2 12 (by decide)]; exact r6, by omega, by omega, ?_⟩
            · obtain ⟨u, hu, rfl⟩ := List.mem_map.mp ht
              intro i2 F2 hiF
              have hiF := Option.some.inj hiF
              rw [← hsf] at hu
              have hk := selS_ok hvk.2 hu
              rw [hiF] at hk
              exact hk
            · obtain ⟨u, hu, rfl⟩ := List.mem_map.mp ht
              exact ⟨Int.le_refl 0, by show (0 : Int) ≤ 400; decide⟩
            · rw [u3, List.length_map]
              show _ = (0 : Int) + _
              omega
            · rw [wT_map]
              show (0 : Int) + _ ≤ 80
              omega
          obtain ⟨τ, w', n3, c3, z1, z2, z3, z4, z5, z6, z7, z8⟩ := jn_go_loop (β := β) (d := d) (h := h) (v0 := v0) (fi := fi) hl hA0 hB0 hbh l (i + 1) n2 c2 1 0 true (some (j, F)) [e] [] ((flatS F).map fun u => (0, some u)) τ3 (some (.int (Int32.ofInt (e.1)))) (some (.int (Int32.ofInt (s)))) (some (.int (Int32.ofInt (w)))) hG3 (evI_flat (v := (j, F)) he6 h5) (fun v hv => by cases hv; exact ⟨hvk, hfc⟩) (fun e' he' => by rw [List.mem_singleton.mp he']; exact hok) (itR_fr (goF_it hgf) l (i + 1) hI2) (by omega) (by omega) rfl (fun z => by cases z) (by have : ([] : List (List (Int × Bool))).length = 0 := rfl; omega) (Or.inl ⟨rfl, rfl⟩) (by omega) (by omega)
          refine ⟨τ, w', n3, c3, ?_, z2, z3, z4, z5, z6, z7, goF_trans hgf z8⟩
          refine jr_1 jm_260 (show jw_cd cd_260 29 = some (.iload 5) by decide +kernel) rfl ?_
          refine jr_1 jm_260 (show jw_cd cd_260 31 = some (.iload_n 3) by decide +kernel) rfl ?_
          refine jr_1 jm_260 (show jw_cd cd_260 32 = some (.if_icmp .ge 119) by decide +kernel) (mb_f (q := .ge) (a := i) (b := bh) (by show ¬ (bh ≤ i); omega) ⟨by omega, by omega⟩ ⟨by omega, by omega⟩ (by decide)) ?_
          refine jr_1 jm_260 (show jw_cd cd_260 35 = some (.aload_n 0) by decide +kernel) rfl ?_
          refine jr_1 jm_260 (show jw_cd cd_260 36 = some (.getfield 47) by decide +kernel) (mg_a hl (a := 28) (show jw_fld 34 47 16 = some 17 by decide +kernel) (by decide) (by decide)) ?_
          refine jr_1 jm_260 (show jw_cd cd_260 39 = some (.iload 5) by decide +kernel) rfl ?_
          refine jr_1 jm_260 (show jw_cd cd_260 41 = some (.iaload) by decide +kernel) (ma_i hl (i := i) (e := e.1) 17 (by omega) (by show _ < ((1200 : Nat) : Int); omega) e17 (by decide) (by decide) (by decide)) ?_
          refine jr_1 jm_260 (F2 := (44, [some (.ref 15), some (.int (Int32.ofInt (v0))), some (.int (Int32.ofInt (fi))), some (.int (Int32.ofInt (bh))), some (.int (Int32.ofInt (mv))), some (.int (Int32.ofInt (i))), some (.int (Int32.ofInt (e.1))), c7, c8], [], ml_mk h σ)) (show jw_cd cd_260 42 = some (.istore 6) by decide +kernel) rfl ?_
          refine jr_1 jm_260 (show jw_cd cd_260 44 = some (.aload_n 0) by decide +kernel) rfl ?_
          refine jr_1 jm_260 (show jw_cd cd_260 45 = some (.getfield 53) by decide +kernel) (mg_a hl (a := 30) (show jw_fld 34 53 16 = some 19 by decide +kernel) (by decide) (by decide)) ?_
          refine jr_1 jm_260 (show jw_cd cd_260 48 = some (.iload 5) by decide +kernel) rfl ?_
          refine jr_1 jm_260 (show jw_cd cd_260 50 = some (.iaload) by decide +kernel) (ma_i hl (i := i) (e := s) 19 (by omega) (by show _ < ((1200 : Nat) : Int); omega) e19 (by decide) (by decide) (by decide)) ?_
          refine jr_1 jm_260 (F2 := (53, [some (.ref 15), some (.int (Int32.ofInt (v0))), some (.int (Int32.ofInt (fi))), some (.int (Int32.ofInt (bh))), some (.int (Int32.ofInt (mv))), some (.int (Int32.ofInt (i))), some (.int (Int32.ofInt (e.1))), some (.int (Int32.ofInt (s))), c8], [], ml_mk h σ)) (show jw_cd cd_260 51 = some (.istore 7) by decide +kernel) rfl ?_
          refine jr_1 jm_260 (show jw_cd cd_260 53 = some (.iload 6) by decide +kernel) rfl ?_
          refine jr_1 jm_260 (show jw_cd cd_260 55 = some (.bipush 6) by decide +kernel) (mt_bi (by decide)) ?_
          refine jr_1 jm_260 (show jw_cd cd_260 57 = some (.if_icmp .ne 58) by decide +kernel) (mb_f (q := .ne) (a := e.1) (b := 6) (by show ¬ (¬ (e.1 = 6)); omega) ⟨by omega, by omega⟩ ⟨by omega, by omega⟩ (by decide)) ?_
          refine r1 _ ?_
          refine jr_1 jm_260 (show jw_cd cd_260 84 = some (.iload 8) by decide +kernel) rfl ?_
          refine jr_1 jm_260 (show jw_cd cd_260 86 = some (.iconst (-1)) by decide +kernel) rfl ?_
          refine jr_1 jm_260 (show jw_cd cd_260 87 = some (.if_icmp .eq 14) by decide +kernel) (mb_f (q := .eq) (a := w) (b := -1) (by show ¬ (w = -1); omega) ⟨by omega, by omega⟩ ⟨by omega, by omega⟩ (by decide)) ?_
          refine jr_1 jm_260 (show jw_cd cd_260 90 = some (.aload_n 0) by decide +kernel) rfl ?_
          refine jr_1 jm_260 (show jw_cd cd_260 91 = some (.getfield 13) by decide +kernel) (mg_a hl (a := 17) (show jw_fld 34 13 16 = some 3 by decide +kernel) (by decide) (by decide)) ?_
          refine jr_1 jm_260 (show jw_cd cd_260 94 = some (.iload 8) by decide +kernel) rfl ?_
          refine jr_1 jm_260 (show jw_cd cd_260 96 = some (.iaload) by decide +kernel) (ma_i hl (i := w) (e := j.1) 3 (by omega) (by show _ < ((1740 : Nat) : Int); omega) e3 (by decide) (by decide) (by decide)) ?_
          refine jr_1 jm_260 (show jw_cd cd_260 97 = some (.iconst 5) by decide +kernel) rfl ?_
          refine jr_1 jm_260 (show jw_cd cd_260 98 = some (.if_icmp .eq 5) by decide +kernel) (mb_t (q := .eq) (a := j.1) (b := 5) (t := 103) (by show j.1 = 5; omega) ⟨by omega, by omega⟩ ⟨by omega, by omega⟩ (by decide) (by decide)) ?_
          refine jr_1 jm_260 (show jw_cd cd_260 103 = some (.aload_n 0) by decide +kernel) rfl ?_
          refine jr_1 jm_260 (show jw_cd cd_260 104 = some (.iload 8) by decide +kernel) rfl ?_
          refine jr_c jm_260 (show jw_cd cd_260 106 = some (.invokevirtual 299) by decide +kernel) (mc_v hl (n := 1) (m2 := 265) (bs := [.int (Int32.ofInt (w))]) (r := []) (show jw_find jw_cvT 34 299 = some (1, [(16, 265)]) by decide +kernel) (by decide) rfl rfl rfl) jm_265 ⟨Nat.le_of_ble_eq_true rfl, by decide⟩ u1 ?_
          refine jr_1 jm_260 (show jw_cd cd_260 109 = some (.iconst 1) by decide +kernel) rfl ?_
          refine jr_1 jm_260 (F2 := (112, [some (.ref 15), some (.int (Int32.ofInt (v0))), some (.int (Int32.ofInt (fi))), some (.int (Int32.ofInt (bh))), some (.int (Int32.ofInt (1))), some (.int (Int32.ofInt (i))), some (.int (Int32.ofInt (e.1))), some (.int (Int32.ofInt (s))), some (.int (Int32.ofInt (w)))], [], ml_mk h τ3)) (show jw_cd cd_260 110 = some (.istore 4) by decide +kernel) rfl ?_
          refine jr_1 jm_260 (show jw_cd cd_260 112 = some (.goto 33) by decide +kernel) (ju_go (t := 145) (by decide)) ?_
          refine jr_1 jm_260 (F2 := (148, [some (.ref 15), some (.int (Int32.ofInt (v0))), some (.int (Int32.ofInt (fi))), some (.int (Int32.ofInt (bh))), some (.int (Int32.ofInt (1))), some (.int (Int32.ofInt (i + 1))), some (.int (Int32.ofInt (e.1))), some (.int (Int32.ofInt (s))), some (.int (Int32.ofInt (w)))], [], ml_mk h τ3)) (show jw_cd cd_260 145 = some (.iinc 5 1) by decide +kernel) (mt_inc (a := i) (c := i + 1) rfl (by omega) rfl) ?_
          refine jr_1 jm_260 (show jw_cd cd_260 148 = some (.goto (-119)) by decide +kernel) (ju_go (t := 29) (by decide)) ?_
          exact z1
        · have hun : evT (some (j, F)) [e] l = none := evT_unfit (v := (j, F)) h5 he6 l
          refine ⟨τ2, -1, n2, c2, ?_, by rw [hun]; exact rfl, by rw [hun]; exact (fun _ _ z => by cases z), r5, r6, ⟨by omega, by omega⟩, ⟨by omega, by omega⟩, r9⟩
          refine jr_1 jm_260 (show jw_cd cd_260 29 = some (.iload 5) by decide +kernel) rfl ?_
          refine jr_1 jm_260 (show jw_cd cd_260 31 = some (.iload_n 3) by decide +kernel) rfl ?_
          refine jr_1 jm_260 (show jw_cd cd_260 32 = some (.if_icmp .ge 119) by decide +kernel) (mb_f (q := .ge) (a := i) (b := bh) (by show ¬ (bh ≤ i); omega) ⟨by omega, by omega⟩ ⟨by omega, by omega⟩ (by decide)) ?_
          refine jr_1 jm_260 (show jw_cd cd_260 35 = some (.aload_n 0) by decide +kernel) rfl ?_
          refine jr_1 jm_260 (show jw_cd cd_260 36 = some (.getfield 47) by decide +kernel) (mg_a hl (a := 28) (show jw_fld 34 47 16 = some 17 by decide +kernel) (by decide) (by decide)) ?_
          refine jr_1 jm_260 (show jw_cd cd_260 39 = some (.iload 5) by decide +kernel) rfl ?_
          refine jr_1 jm_260 (show jw_cd cd_260 41 = some (.iaload) by decide +kernel) (ma_i hl (i := i) (e := e.1) 17 (by omega) (by show _ < ((1200 : Nat) : Int); omega) e17 (by decide) (by decide) (by decide)) ?_
          refine jr_1 jm_260 (F2 := (44, [some (.ref 15), some (.int (Int32.ofInt (v0))), some (.int (Int32.ofInt (fi))), some (.int (Int32.ofInt (bh))), some (.int (Int32.ofInt (mv))), some (.int (Int32.ofInt (i))), some (.int (Int32.ofInt (e.1))), c7, c8], [], ml_mk h σ)) (show jw_cd cd_260 42 = some (.istore 6) by decide +kernel) rfl ?_
          refine jr_1 jm_260 (show jw_cd cd_260 44 = some (.aload_n 0) by decide +kernel) rfl ?_
          refine jr_1 jm_260 (show jw_cd cd_260 45 = some (.getfield 53) by decide +kernel) (mg_a hl (a := 30) (show jw_fld 34 53 16 = some 19 by decide +kernel) (by decide) (by decide)) ?_
          refine jr_1 jm_260 (show jw_cd cd_260 48 = some (.iload 5) by decide +kernel) rfl ?_
          refine jr_1 jm_260 (show jw_cd cd_260 50 = some (.iaload) by decide +kernel) (ma_i hl (i := i) (e := s) 19 (by omega) (by show _ < ((1200 : Nat) : Int); omega) e19 (by decide) (by decide) (by decide)) ?_
          refine jr_1 jm_260 (F2 := (53, [some (.ref 15), some (.int (Int32.ofInt (v0))), some (.int (Int32.ofInt (fi))), some (.int (Int32.ofInt (bh))), some (.int (Int32.ofInt (mv))), some (.int (Int32.ofInt (i))), some (.int (Int32.ofInt (e.1))), some (.int (Int32.ofInt (s))), c8], [], ml_mk h σ)) (show jw_cd cd_260 51 = some (.istore 7) by decide +kernel) rfl ?_
          refine jr_1 jm_260 (show jw_cd cd_260 53 = some (.iload 6) by decide +kernel) rfl ?_
          refine jr_1 jm_260 (show jw_cd cd_260 55 = some (.bipush 6) by decide +kernel) (mt_bi (by decide)) ?_
          refine jr_1 jm_260 (show jw_cd cd_260 57 = some (.if_icmp .ne 58) by decide +kernel) (mb_f (q := .ne) (a := e.1) (b := 6) (by show ¬ (¬ (e.1 = 6)); omega) ⟨by omega, by omega⟩ ⟨by omega, by omega⟩ (by decide)) ?_
          refine r1 _ ?_
          refine jr_1 jm_260 (show jw_cd cd_260 84 = some (.iload 8) by decide +kernel) rfl ?_
          refine jr_1 jm_260 (show jw_cd cd_260 86 = some (.iconst (-1)) by decide +kernel) rfl ?_
          refine jr_1 jm_260 (show jw_cd cd_260 87 = some (.if_icmp .eq 14) by decide +kernel) (mb_f (q := .eq) (a := w) (b := -1) (by show ¬ (w = -1); omega) ⟨by omega, by omega⟩ ⟨by omega, by omega⟩ (by decide)) ?_
          refine jr_1 jm_260 (show jw_cd cd_260 90 = some (.aload_n 0) by decide +kernel) rfl ?_
          refine jr_1 jm_260 (show jw_cd cd_260 91 = some (.getfield 13) by decide +kernel) (mg_a hl (a := 17) (show jw_fld 34 13 16 = some 3 by decide +kernel) (by decide) (by decide)) ?_
          refine jr_1 jm_260 (show jw_cd cd_260 94 = some (.iload 8) by decide +kernel) rfl ?_
          refine jr_1 jm_260 (show jw_cd cd_260 96 = some (.iaload) by decide +kernel) (ma_i hl (i := w) (e := j.1) 3 (by omega) (by show _ < ((1740 : Nat) : Int); omega) e3 (by decide) (by decide) (by decide)) ?_
          refine jr_1 jm_260 (show jw_cd cd_260 97 = some (.iconst 5) by decide +kernel) rfl ?_
          refine jr_1 jm_260 (show jw_cd cd_260 98 = some (.if_icmp .eq 5) by decide +kernel) (mb_f (q := .eq) (a := j.1) (b := 5) (by show ¬ (j.1 = 5); omega) ⟨by omega, by omega⟩ ⟨by omega, by omega⟩ (by decide)) ?_
          refine jr_1 jm_260 (show jw_cd cd_260 101 = some (.iconst (-1)) by decide +kernel) rfl ?_
          exact jr_v jm_260 (show jw_cd cd_260 102 = some (.ireturn) by decide +kernel) rfl
    · have hev : evT x acc (e :: l) = evT x (acc ++ [e]) l := if_neg he6
      rw [hev]
      by_cases hp1 : e.1 ≤ 1
      · obtain ⟨τ3, u1, u2, u3⟩ := jn_picks (β := β) (d := d + 2) (h := h) (σ := σ) (fi := tot bs) (sl := tot bs + top.length) (m := (bs.length : Int) + 1) hl (zA_ix hA0 g10 (by omega)) (zA_ix hB0 g11 (by omega)) (hpk hp1) g2 hf390 g6 g7 (by rw [show (bs.length : Int) + 1 - 1 = (bs.length : Int) by omega]; exact lvS_40 g1) ⟨by omega, by omega⟩ ht0 rfl (by omega)
        have hwp := wT_pck (e := e) top g3
        have hml := mapV_len (pckS e) top
        have hG3 : goR τ3 A0 B0 bs (mapV (pckS e) top) nn cc := ⟨lvS_fr bs (fun j _ => ⟨by rw [u2.1 38 (by decide)], by rw [u2.1 39 (by decide)]⟩) (fun j _ => by rw [u2.1 40 (by decide)]) g1, u3, mapV_ok g3, mapV_fr (P := fun a => 0 ≤ a ∧ a ≤ 400) g4, g5, by rw [u2.1 36 (by decide), hml]; exact g6, by rw [u2.1 41 (by decide)]; exact g7, by rw [u2.1 11 (by decide)]; exact g8, by rw [u2.1 12 (by decide)]; exact g9, g10, g11, by omega⟩
        have hgf := goF_pk u2
        obtain ⟨τ, w', n3, c3, z1, z2, z3, z4, z5, z6, z7, z8⟩ := jn_go_loop (β := β) (d := d) (h := h) (v0 := v0) (fi := fi) hl hA0 hB0 hbh l (i + 1) nn cc mv pb many x (acc ++ [e]) bs (mapV (pckS e) top) τ3 (some (.int (Int32.ofInt (e.1)))) (some (.int (Int32.ofInt (s)))) c8 hG3 (evI_pck hp1 hE) hx ha2 (itR_fr (goF_it hgf) l (i + 1) hI2) (by omega) (by omega) hm (fun z => by rw [hml]; exact hbo z) (by omega) hpb (by omega) (by omega)
        refine ⟨τ, w', n3, c3, ?_, z2, z3, z4, z5, z6, z7, goF_trans hgf z8⟩
        by_cases hp0 : e.1 = 0
        · skip
          refine jr_1 jm_260 (show jw_cd cd_260 29 = some (.iload 5) by decide +kernel) rfl ?_
          refine jr_1 jm_260 (show jw_cd cd_260 31 = some (.iload_n 3) by decide +kernel) rfl ?_
          refine jr_1 jm_260 (show jw_cd cd_260 32 = some (.if_icmp .ge 119) by decide +kernel) (mb_f (q := .ge) (a := i) (b := bh) (by show ¬ (bh ≤ i); omega) ⟨by omega, by omega⟩ ⟨by omega, by omega⟩ (by decide)) ?_
          refine jr_1 jm_260 (show jw_cd cd_260 35 = some (.aload_n 0) by decide +kernel) rfl ?_
          refine jr_1 jm_260 (show jw_cd cd_260 36 = some (.getfield 47) by decide +kernel) (mg_a hl (a := 28) (show jw_fld 34 47 16 = some 17 by decide +kernel) (by decide) (by decide)) ?_
          refine jr_1 jm_260 (show jw_cd cd_260 39 = some (.iload 5) by decide +kernel) rfl ?_
          refine jr_1 jm_260 (show jw_cd cd_260 41 = some (.iaload) by decide +kernel) (ma_i hl (i := i) (e := e.1) 17 (by omega) (by show _ < ((1200 : Nat) : Int); omega) e17 (by decide) (by decide) (by decide)) ?_
          refine jr_1 jm_260 (F2 := (44, [some (.ref 15), some (.int (Int32.ofInt (v0))), some (.int (Int32.ofInt (fi))), some (.int (Int32.ofInt (bh))), some (.int (Int32.ofInt (mv))), some (.int (Int32.ofInt (i))), some (.int (Int32.ofInt (e.1))), c7, c8], [], ml_mk h σ)) (show jw_cd cd_260 42 = some (.istore 6) by decide +kernel) rfl ?_
          refine jr_1 jm_260 (show jw_cd cd_260 44 = some (.aload_n 0) by decide +kernel) rfl ?_
          refine jr_1 jm_260 (show jw_cd cd_260 45 = some (.getfield 53) by decide +kernel) (mg_a hl (a := 30) (show jw_fld 34 53 16 = some 19 by decide +kernel) (by decide) (by decide)) ?_
          refine jr_1 jm_260 (show jw_cd cd_260 48 = some (.iload 5) by decide +kernel) rfl ?_
          refine jr_1 jm_260 (show jw_cd cd_260 50 = some (.iaload) by decide +kernel) (ma_i hl (i := i) (e := s) 19 (by omega) (by show _ < ((1200 : Nat) : Int); omega) e19 (by decide) (by decide) (by decide)) ?_
          refine jr_1 jm_260 (F2 := (53, [some (.ref 15), some (.int (Int32.ofInt (v0))), some (.int (Int32.ofInt (fi))), some (.int (Int32.ofInt (bh))), some (.int (Int32.ofInt (mv))), some (.int (Int32.ofInt (i))), some (.int (Int32.ofInt (e.1))), some (.int (Int32.ofInt (s))), c8], [], ml_mk h σ)) (show jw_cd cd_260 51 = some (.istore 7) by decide +kernel) rfl ?_
          refine jr_1 jm_260 (show jw_cd cd_260 53 = some (.iload 6) by decide +kernel) rfl ?_
          refine jr_1 jm_260 (show jw_cd cd_260 55 = some (.bipush 6) by decide +kernel) (mt_bi (by decide)) ?_
          refine jr_1 jm_260 (show jw_cd cd_260 57 = some (.if_icmp .ne 58) by decide +kernel) (mb_t (q := .ne) (a := e.1) (b := 6) (t := 115) (by show ¬ (e.1 = 6); omega) ⟨by omega, by omega⟩ ⟨by omega, by omega⟩ (by decide) (by decide)) ?_
          refine jr_1 jm_260 (show jw_cd cd_260 115 = some (.iload 6) by decide +kernel) rfl ?_
          refine jr_1 jm_260 (show jw_cd cd_260 117 = some (.ifCond .eq 9) by decide +kernel) (mz_t (q := .eq) (a := e.1) (t := 126) (by show e.1 = 0; omega) ⟨by omega, by omega⟩ (by decide) (by decide)) ?_
          refine jr_1 jm_260 (show jw_cd cd_260 126 = some (.aload_n 0) by decide +kernel) rfl ?_
          refine jr_1 jm_260 (show jw_cd cd_260 127 = some (.iload 5) by decide +kernel) rfl ?_
          refine jr_1 jm_260 (show jw_cd cd_260 129 = some (.iload 7) by decide +kernel) rfl ?_
          refine jr_c jm_260 (show jw_cd cd_260 131 = some (.invokevirtual 302) by decide +kernel) (mc_v hl (n := 2) (m2 := 266) (bs := [.int (Int32.ofInt (i)), .int (Int32.ofInt (s))]) (r := []) (show jw_find jw_cvT 34 302 = some (2, [(16, 266)]) by decide +kernel) (by decide) rfl rfl rfl) jm_266 ⟨Nat.le_of_ble_eq_true rfl, by decide⟩ u1 ?_
          refine jr_1 jm_260 (show jw_cd cd_260 134 = some (.goto 11) by decide +kernel) (ju_go (t := 145) (by decide)) ?_
          refine jr_1 jm_260 (F2 := (148, [some (.ref 15), some (.int (Int32.ofInt (v0))), some (.int (Int32.ofInt (fi))), some (.int (Int32.ofInt (bh))), some (.int (Int32.ofInt (mv))), some (.int (Int32.ofInt (i + 1))), some (.int (Int32.ofInt (e.1))), some (.int (Int32.ofInt (s))), c8], [], ml_mk h τ3)) (show jw_cd cd_260 145 = some (.iinc 5 1) by decide +kernel) (mt_inc (a := i) (c := i + 1) rfl (by omega) rfl) ?_
          refine jr_1 jm_260 (show jw_cd cd_260 148 = some (.goto (-119)) by decide +kernel) (ju_go (t := 29) (by decide)) ?_
          exact z1
        · skip
          refine jr_1 jm_260 (show jw_cd cd_260 29 = some (.iload 5) by decide +kernel) rfl ?_
          refine jr_1 jm_260 (show jw_cd cd_260 31 = some (.iload_n 3) by decide +kernel) rfl ?_
          refine jr_1 jm_260 (show jw_cd cd_260 32 = some (.if_icmp .ge 119) by decide +kernel) (mb_f (q := .ge) (a := i) (b := bh) (by show ¬ (bh ≤ i); omega) ⟨by omega, by omega⟩ ⟨by omega, by omega⟩ (by decide)) ?_
          refine jr_1 jm_260 (show jw_cd cd_260 35 = some (.aload_n 0) by decide +kernel) rfl ?_
          refine jr_1 jm_260 (show jw_cd cd_260 36 = some (.getfield 47) by decide +kernel) (mg_a hl (a := 28) (show jw_fld 34 47 16 = some 17 by decide +kernel) (by decide) (by decide)) ?_
          refine jr_1 jm_260 (show jw_cd cd_260 39 = some (.iload 5) by decide +kernel) rfl ?_
          refine jr_1 jm_260 (show jw_cd cd_260 41 = some (.iaload) by decide +kernel) (ma_i hl (i := i) (e := e.1) 17 (by omega) (by show _ < ((1200 : Nat) : Int); omega) e17 (by decide) (by decide) (by decide)) ?_
          refine jr_1 jm_260 (F2 := (44, [some (.ref 15), some (.int (Int32.ofInt (v0))), some (.int (Int32.ofInt (fi))), some (.int (Int32.ofInt (bh))), some (.int (Int32.ofInt (mv))), some (.int (Int32.ofInt (i))), some (.int (Int32.ofInt (e.1))), c7, c8], [], ml_mk h σ)) (show jw_cd cd_260 42 = some (.istore 6) by decide +kernel) rfl ?_
          refine jr_1 jm_260 (show jw_cd cd_260 44 = some (.aload_n 0) by decide +kernel) rfl ?_
          refine jr_1 jm_260 (show jw_cd cd_260 45 = some (.getfield 53) by decide +kernel) (mg_a hl (a := 30) (show jw_fld 34 53 16 = some 19 by decide +kernel) (by decide) (by decide)) ?_
          refine jr_1 jm_260 (show jw_cd cd_260 48 = some (.iload 5) by decide +kernel) rfl ?_
          refine jr_1 jm_260 (show jw_cd cd_260 50 = some (.iaload) by decide +kernel) (ma_i hl (i := i) (e := s) 19 (by omega) (by show _ < ((1200 : Nat) : Int); omega) e19 (by decide) (by decide) (by decide)) ?_
          refine jr_1 jm_260 (F2 := (53, [some (.ref 15), some (.int (Int32.ofInt (v0))), some (.int (Int32.ofInt (fi))), some (.int (Int32.ofInt (bh))), some (.int (Int32.ofInt (mv))), some (.int (Int32.ofInt (i))), some (.int (Int32.ofInt (e.1))), some (.int (Int32.ofInt (s))), c8], [], ml_mk h σ)) (show jw_cd cd_260 51 = some (.istore 7) by decide +kernel) rfl ?_
          refine jr_1 jm_260 (show jw_cd cd_260 53 = some (.iload 6) by decide +kernel) rfl ?_
          refine jr_1 jm_260 (show jw_cd cd_260 55 = some (.bipush 6) by decide +kernel) (mt_bi (by decide)) ?_
          refine jr_1 jm_260 (show jw_cd cd_260 57 = some (.if_icmp .ne 58) by decide +kernel) (mb_t (q := .ne) (a := e.1) (b := 6) (t := 115) (by show ¬ (e.1 = 6); omega) ⟨by omega, by omega⟩ ⟨by omega, by omega⟩ (by decide) (by decide)) ?_
          refine jr_1 jm_260 (show jw_cd cd_260 115 = some (.iload 6) by decide +kernel) rfl ?_
          refine jr_1 jm_260 (show jw_cd cd_260 117 = some (.ifCond .eq 9) by decide +kernel) (mz_f (q := .eq) (a := e.1) (by show ¬ (e.1 = 0); omega) ⟨by omega, by omega⟩ (by decide)) ?_
          refine jr_1 jm_260 (show jw_cd cd_260 120 = some (.iload 6) by decide +kernel) rfl ?_
          refine jr_1 jm_260 (show jw_cd cd_260 122 = some (.iconst 1) by decide +kernel) rfl ?_
          refine jr_1 jm_260 (show jw_cd cd_260 123 = some (.if_icmp .ne 14) by decide +kernel) (mb_f (q := .ne) (a := e.1) (b := 1) (by show ¬ (¬ (e.1 = 1)); omega) ⟨by omega, by omega⟩ ⟨by omega, by omega⟩ (by decide)) ?_
          refine jr_1 jm_260 (show jw_cd cd_260 126 = some (.aload_n 0) by decide +kernel) rfl ?_
          refine jr_1 jm_260 (show jw_cd cd_260 127 = some (.iload 5) by decide +kernel) rfl ?_
          refine jr_1 jm_260 (show jw_cd cd_260 129 = some (.iload 7) by decide +kernel) rfl ?_
          refine jr_c jm_260 (show jw_cd cd_260 131 = some (.invokevirtual 302) by decide +kernel) (mc_v hl (n := 2) (m2 := 266) (bs := [.int (Int32.ofInt (i)), .int (Int32.ofInt (s))]) (r := []) (show jw_find jw_cvT 34 302 = some (2, [(16, 266)]) by decide +kernel) (by decide) rfl rfl rfl) jm_266 ⟨Nat.le_of_ble_eq_true rfl, by decide⟩ u1 ?_
          refine jr_1 jm_260 (show jw_cd cd_260 134 = some (.goto 11) by decide +kernel) (ju_go (t := 145) (by decide)) ?_
          refine jr_1 jm_260 (F2 := (148, [some (.ref 15), some (.int (Int32.ofInt (v0))), some (.int (Int32.ofInt (fi))), some (.int (Int32.ofInt (bh))), some (.int (Int32.ofInt (mv))), some (.int (Int32.ofInt (i + 1))), some (.int (Int32.ofInt (e.1))), some (.int (Int32.ofInt (s))), c8], [], ml_mk h τ3)) (show jw_cd cd_260 145 = some (.iinc 5 1) by decide +kernel) (mt_inc (a := i) (c := i + 1) rfl (by omega) rfl) ?_
          refine jr_1 jm_260 (show jw_cd cd_260 148 = some (.goto (-119)) by decide +kernel) (ju_go (t := 29) (by decide)) ?_
          exact z1
      · have hfl := fitL_len e top
        have hwp := wT_prj hok top (tot bs)
        have hpl := wT_len (prj e (tot bs) top)
        have htc := tot_cons (fitL e top) bs
        rw [hfl] at hwp htc
        obtain ⟨τ3, u1, u2, u3, u4, u5⟩ := jn_project (β := β) (d := d) (h := h) (σ := σ) (s := s) (fi := tot bs) (bh := tot bs + top.length) (nn := nn) (N := 170 * 4 + nn) (m := (bs.length : Int) + 1) (e := e) (top := top) hl (zA_r hA0 g10) (zA_ix hB0 g11 (by omega)) g10 rfl (by omega) (hpr (by omega) (by omega)) g2 hf390 g8 g6 g7 (by rw [show (bs.length : Int) + 1 - 1 = (bs.length : Int) by omega]; exact lvS_40 g1) ⟨by omega, by omega⟩ ht0 rfl (by omega)
        obtain ⟨σ1, hσ1⟩ : ∃ σ1, σ1 = (su (su σ 40 ((bs.length : Int) + 1) (tot bs + top.length)) 41 0 ((bs.length : Int) + 1 + 1)) := ⟨_, rfl⟩
        rw [← hσ1] at u2
        have q1 : ∀ f, f ∉ [40, 41] → σ1 f = σ f := fun f hf => by
          simp only [List.mem_cons, List.mem_nil_iff, or_false, not_or] at hf
          rw [hσ1, su_row (by omega), su_row (by omega)]
        have hgf : goF σ τ3 := goF_trans (goF_q (fun f hf => q1 f (by simp only [List.mem_cons, List.mem_nil_iff, or_false, not_or] at hf ⊢; omega))) (goF_pj (by omega) u2)
        have q40 : τ3 40 = σ1 40 := u2.2.2.2.1 40 (by decide)
        have hG3 : goR τ3 A0 B0 (fitL e top :: bs) (prj e (tot bs) top) nn cc := by
          refine ⟨⟨?_, u4, lvS_fr bs (fun j hj => ⟨?_, ?_⟩) (fun j hj => ?_) g1⟩, ?_, prj_ok top _ g3, fun t ht => ?_, fun b hb => ?_, ?_, ?_, by rw [u2.2.2.2.2, q1 11 (by decide)]; exact g8, by rw [u2.2.2.2.1 12 (by decide), q1 12 (by decide)]; exact g9, g10, g11, ?_⟩
          · rw [q40, hσ1, su_nf (by decide), su_eq, htc]
            omega
          · rw [u2.2.1 38 j (by decide) (by decide) (by omega), q1 38 (by decide)]
          · rw [u2.2.2.1 j hj, q1 39 (by decide)]
          · rw [q40, hσ1, su_nf (by decide), su_ni (by omega)]
          · rw [htc, Int.add_comm]
            exact u5
          · have := prj_fr e top (tot bs) t ht
            omega
          · rcases List.mem_cons.mp hb with rfl | hb
            · exact fitL_fr (P := fun a => 0 ≤ a ∧ a ≤ 400) g4
            · exact g5 b hb
          · rw [u3, htc]
            omega
          · rw [u2.2.2.2.1 41 (by decide), hσ1, su_eq]
            simp
          · rw [htc]
            omega
        obtain ⟨τ, w', n3, c3, z1, z2, z3, z4, z5, z6, z7, z8⟩ := jn_go_loop (β := β) (d := d) (h := h) (v0 := v0) (fi := fi) hl hA0 hB0 hbh l (i + 1) nn cc mv 80 many x (acc ++ [e]) (fitL e top :: bs) (prj e (tot bs) top) τ3 (some (.int (Int32.ofInt (e.1)))) (some (.int (Int32.ofInt (s)))) c8 hG3 (evI_prj hp1 hE) hx ha2 (itR_fr (goF_it hgf) l (i + 1) hI2) (by omega) (by omega) hm (fun z => by
          show 1 ≤ botL (fitL e top).length bs
          rw [hfl]
          exact hbo z) (by show bs.length + 1 + l.length ≤ 12; omega) (Or.inr rfl) (by omega) (by omega)
        refine ⟨τ, w', n3, c3, ?_, z2, z3, z4, z5, z6, z7, goF_trans hgf z8⟩
        refine jr_1 jm_260 (show jw_cd cd_260 29 = some (.iload 5) by decide +kernel) rfl ?_
        refine jr_1 jm_260 (show jw_cd cd_260 31 = some (.iload_n 3) by decide +kernel) rfl ?_
        refine jr_1 jm_260 (show jw_cd cd_260 32 = some (.if_icmp .ge 119) by decide +kernel) (mb_f (q := .ge) (a := i) (b := bh) (by show ¬ (bh ≤ i); omega) ⟨by omega, by omega⟩ ⟨by omega, by omega⟩ (by decide)) ?_
        refine jr_1 jm_260 (show jw_cd cd_260 35 = some (.aload_n 0) by decide +kernel) rfl ?_
        refine jr_1 jm_260 (show jw_cd cd_260 36 = some (.getfield 47) by decide +kernel) (mg_a hl (a := 28) (show jw_fld 34 47 16 = some 17 by decide +kernel) (by decide) (by decide)) ?_
        refine jr_1 jm_260 (show jw_cd cd_260 39 = some (.iload 5) by decide +kernel) rfl ?_
        refine jr_1 jm_260 (show jw_cd cd_260 41 = some (.iaload) by decide +kernel) (ma_i hl (i := i) (e := e.1) 17 (by omega) (by show _ < ((1200 : Nat) : Int); omega) e17 (by decide) (by decide) (by decide)) ?_
        refine jr_1 jm_260 (F2 := (44, [some (.ref 15), some (.int (Int32.ofInt (v0))), some (.int (Int32.ofInt (fi))), some (.int (Int32.ofInt (bh))), some (.int (Int32.ofInt (mv))), some (.int (Int32.ofInt (i))), some (.int (Int32.ofInt (e.1))), c7, c8], [], ml_mk h σ)) (show jw_cd cd_260 42 = some (.istore 6) by decide +kernel) rfl ?_
        refine jr_1 jm_260 (show jw_cd cd_260 44 = some (.aload_n 0) by decide +kernel) rfl ?_
        refine jr_1 jm_260 (show jw_cd cd_260 45 = some (.getfield 53) by decide +kernel) (mg_a hl (a := 30) (show jw_fld 34 53 16 = some 19 by decide +kernel) (by decide) (by decide)) ?_
        refine jr_1 jm_260 (show jw_cd cd_260 48 = some (.iload 5) by decide +kernel) rfl ?_
        refine jr_1 jm_260 (show jw_cd cd_260 50 = some (.iaload) by decide +kernel) (ma_i hl (i := i) (e := s) 19 (by omega) (by show _ < ((1200 : Nat) : Int); omega) e19 (by decide) (by decide) (by decide)) ?_
        refine jr_1 jm_260 (F2 := (53, [some (.ref 15), some (.int (Int32.ofInt (v0))), some (.int (Int32.ofInt (fi))), some (.int (Int32.ofInt (bh))), some (.int (Int32.ofInt (mv))), some (.int (Int32.ofInt (i))), some (.int (Int32.ofInt (e.1))), some (.int (Int32.ofInt (s))), c8], [], ml_mk h σ)) (show jw_cd cd_260 51 = some (.istore 7) by decide +kernel) rfl ?_
        refine jr_1 jm_260 (show jw_cd cd_260 53 = some (.iload 6) by decide +kernel) rfl ?_
        refine jr_1 jm_260 (show jw_cd cd_260 55 = some (.bipush 6) by decide +kernel) (mt_bi (by decide)) ?_
        refine jr_1 jm_260 (show jw_cd cd_260 57 = some (.if_icmp .ne 58) by decide +kernel) (mb_t (q := .ne) (a := e.1) (b := 6) (t := 115) (by show ¬ (e.1 = 6); omega) ⟨by omega, by omega⟩ ⟨by omega, by omega⟩ (by decide) (by decide)) ?_
        refine jr_1 jm_260 (show jw_cd cd_260 115 = some (.iload 6) by decide +kernel) rfl ?_
        refine jr_1 jm_260 (show jw_cd cd_260 117 = some (.ifCond .eq 9) by decide +kernel) (mz_f (q := .eq) (a := e.1) (by show ¬ (e.1 = 0); omega) ⟨by omega, by omega⟩ (by decide)) ?_
        refine jr_1 jm_260 (show jw_cd cd_260 120 = some (.iload 6) by decide +kernel) rfl ?_
        refine jr_1 jm_260 (show jw_cd cd_260 122 = some (.iconst 1) by decide +kernel) rfl ?_
        refine jr_1 jm_260 (show jw_cd cd_260 123 = some (.if_icmp .ne 14) by decide +kernel) (mb_t (q := .ne) (a := e.1) (b := 1) (t := 137) (by show ¬ (e.1 = 1); omega) ⟨by omega, by omega⟩ ⟨by omega, by omega⟩ (by decide) (by decide)) ?_
        refine jr_1 jm_260 (show jw_cd cd_260 137 = some (.aload_n 0) by decide +kernel) rfl ?_
        refine jr_1 jm_260 (show jw_cd cd_260 138 = some (.iload 6) by decide +kernel) rfl ?_
        refine jr_1 jm_260 (show jw_cd cd_260 140 = some (.iload 7) by decide +kernel) rfl ?_
        refine jr_c jm_260 (show jw_cd cd_260 142 = some (.invokevirtual 305) by decide +kernel) (mc_v hl (n := 2) (m2 := 268) (bs := [.int (Int32.ofInt (e.1)), .int (Int32.ofInt (s))]) (r := []) (show jw_find jw_cvT 34 305 = some (2, [(16, 268)]) by decide +kernel) (by decide) rfl rfl rfl) jm_268 ⟨Nat.le_of_ble_eq_true rfl, by decide⟩ u1 ?_
        refine jr_1 jm_260 (F2 := (148, [some (.ref 15), some (.int (Int32.ofInt (v0))), some (.int (Int32.ofInt (fi))), some (.int (Int32.ofInt (bh))), some (.int (Int32.ofInt (mv))), some (.int (Int32.ofInt (i + 1))), some (.int (Int32.ofInt (e.1))), some (.int (Int32.ofInt (s))), c8], [], ml_mk h τ3)) (show jw_cd cd_260 145 = some (.iinc 5 1) by decide +kernel) (mt_inc (a := i) (c := i + 1) rfl (by omega) rfl) ?_
        refine jr_1 jm_260 (show jw_cd cd_260 148 = some (.goto (-119)) by decide +kernel) (ju_go (t := 29) (by decide)) ?_
        exact z1
theorem jn_goes {β : Bool} {d : Nat} {h : jx_H} {σ : mS} (hl : 49 ≤ h.length) {A0 B0 : Int → Prop} (hA0 : ∀ v, A0 v → 0 ≤ v ∧ v < 680) (hB0 : ∀ v, B0 v → 0 ≤ v ∧ v < 680) {v0 fi bh nn cc : Int} {i : tI} {F : FT} {l : List sE} (hV : mV σ A0 B0 v0 i F) (hv : vok (i, F)) (hc : fct F ≤ 79) (hI : itR σ fi l) (hbh : bh ≤ 1200) (hi : fi + l.length = bh) (hi0 : 0 ≤ fi) (hl12 : l.length ≤ 12) (e11 : σ 11 4 = 0) (e12 : σ 12 4 = 0) :
    ∃ (τ : mS) (w n2 c2 : Int), jx_r (jz β) jw_M (d + 4) 260 (0, [some (.ref 15), some (.int (Int32.ofInt (v0))), some (.int (Int32.ofInt (fi))), some (.int (Int32.ofInt (bh))), none, none, none, none, none], [], ml_mk h σ) (ml_mk h (τ), .inl (some (.int (Int32.ofInt (w))))) ∧ mO τ (zA A0 n2) (zA B0 c2) w (evT (some (i, F)) [] l) ∧ vokO (evT (some (i, F)) [] l) ∧ τ 11 4 = n2 ∧ τ 12 4 = c2 ∧ (0 ≤ n2 ∧ n2 ≤ 1040) ∧ (0 ≤ c2 ∧ c2 ≤ 1040) ∧ goF σ τ := by
  obtain ⟨σ1, h1⟩ : ∃ σ1, σ1 = (su (su (su σ 36 (0) (0)) 41 (0) (1)) 40 (0) (0)) := ⟨_, rfl⟩
  have q1 : ∀ f, f ∉ [36, 40, 41] → σ1 f = σ f := fun f hf => by
    simp only [List.mem_cons, List.mem_nil_iff, or_false, not_or] at hf
    rw [h1, su_row (by omega), su_row (by omega), su_row (by omega)]
  have e36 : σ1 36 0 = 0 := by rw [h1, su_nf (by decide), su_nf (by decide), su_eq]
  obtain ⟨z1, z2, z3, z4⟩ := en_1 (σ := σ1) (v := v0) (w := 0) e36
  have hgf : goF σ (mEnter σ1 v0 0) := goF_q fun f hf => by
    simp only [List.mem_cons, List.mem_nil_iff, or_false, not_or] at hf
    rw [z1.2 f (by simp; omega), q1 f (by simp; omega)]
  have hG : goR (mEnter σ1 v0 0) A0 B0 [] [(0, some (i, F))] 0 0 := by
    refine ⟨?_, ⟨⟨z4, ?_⟩, trivial⟩, fun t ht => ?_, fun t ht => ?_, fun b hb => absurd hb List.not_mem_nil, z2, ?_, ?_, ?_, Int.le_refl 0, Int.le_refl 0, ?_⟩
    · show mEnter σ1 v0 0 40 0 = 0
      rw [z1.2 40 (by decide), h1, su_eq]
    · show mO _ _ _ (mEnter σ1 v0 0 37 0) _
      rw [z3]
      refine mO_en z1 (mO_eq (σ := σ) (fun f f1 f2 => q1 f (by simp; omega)) (mO_mono (fun v h => Or.inl h) (fun v h => Or.inl h) (x := some (i, F)) hV))
    · rw [List.mem_singleton.mp ht]
      intro i2 F2 hiF
      have := Option.some.inj hiF
      rw [this] at hv
      exact hv
    · rw [List.mem_singleton.mp ht]
      exact ⟨Int.le_refl 0, by show (0 : Int) ≤ 400; decide⟩
    · rw [z1.2 41 (by decide), h1, su_nf (by decide), su_eq]
      rfl
    · rw [z1.2 11 (by decide), q1 11 (by decide)]
      exact e11
    · rw [z1.2 12 (by decide), q1 12 (by decide)]
      exact e12
    · show (0 : Int) + ((1 + fct F + 0 : Nat) : Int) ≤ 80
      omega
  obtain ⟨τ, w, n2, c2, y1, y2, y3, y4, y5, y6, y7, y8⟩ := jn_go_loop (β := β) (d := d) (h := h) (v0 := v0) (fi := fi) hl hA0 hB0 hbh l fi 0 0 0 0 false (some (i, F)) [] [] [(0, some (i, F))] (mEnter σ1 v0 0) none none none hG (evI_init (i, F)) (fun v hv2 => by cases hv2; exact ⟨hv, hc⟩) (fun e he => absurd he List.not_mem_nil) (itR_fr (goF_it hgf) l fi hI) hi hi0 rfl (fun _ => Nat.le_refl 1) (by show 0 + l.length ≤ 12; omega) (Or.inl ⟨rfl, rfl⟩) (by omega) (by omega)
  refine ⟨τ, w, n2, c2, ?_, y2, y3, y4, y5, y6, y7, goF_trans hgf y8⟩
  rw [h1] at y1
  refine jr_1 jm_260 (show jw_cd cd_260 0 = some (.iconst 0) by decide +kernel) rfl ?_
  refine jr_1 jm_260 (F2 := (3, [some (.ref 15), some (.int (Int32.ofInt (v0))), some (.int (Int32.ofInt (fi))), some (.int (Int32.ofInt (bh))), some (.int (Int32.ofInt (0))), none, none, none, none], [], ml_mk h σ)) (show jw_cd cd_260 1 = some (.istore 4) by decide +kernel) rfl ?_
  refine jr_1 jm_260 (show jw_cd cd_260 3 = some (.aload_n 0) by decide +kernel) rfl ?_
  refine jr_1 jm_260 (show jw_cd cd_260 4 = some (.iconst 0) by decide +kernel) rfl ?_
  refine jr_1 jm_260 (show jw_cd cd_260 5 = some (.putfield 264) by decide +kernel) (mp_i hl (x := 0) (show jw_fld 34 264 16 = some 36 by decide +kernel) (by decide) (by decide) (show jw_ft 16 36 = some .int by decide +kernel) (show jw_fm 34 16 36 = some false by decide +kernel)) ?_
  refine jr_1 jm_260 (show jw_cd cd_260 8 = some (.aload_n 0) by decide +kernel) rfl ?_
  refine jr_1 jm_260 (show jw_cd cd_260 9 = some (.iconst 1) by decide +kernel) rfl ?_
  refine jr_1 jm_260 (show jw_cd cd_260 10 = some (.putfield 283) by decide +kernel) (mp_i hl (x := 1) (show jw_fld 34 283 16 = some 41 by decide +kernel) (by decide) (by decide) (show jw_ft 16 41 = some .int by decide +kernel) (show jw_fm 34 16 41 = some false by decide +kernel)) ?_
  refine jr_1 jm_260 (show jw_cd cd_260 13 = some (.aload_n 0) by decide +kernel) rfl ?_
  refine jr_1 jm_260 (show jw_cd cd_260 14 = some (.getfield 98) by decide +kernel) (mg_a hl (a := 45) (show jw_fld 34 98 16 = some 40 by decide +kernel) (by decide) (by decide)) ?_
  refine jr_1 jm_260 (show jw_cd cd_260 17 = some (.iconst 0) by decide +kernel) rfl ?_
  refine jr_1 jm_260 (show jw_cd cd_260 18 = some (.iconst 0) by decide +kernel) rfl ?_
  refine jr_1 jm_260 (show jw_cd cd_260 19 = some (.iastore) by decide +kernel) (ms_i hl (i := 0) (x := 0) 40 (by omega) (by show _ < ((16 : Nat) : Int); omega) (by decide) (by decide) (by decide)) ?_
  refine jr_1 jm_260 (show jw_cd cd_260 20 = some (.aload_n 0) by decide +kernel) rfl ?_
  refine jr_1 jm_260 (show jw_cd cd_260 21 = some (.iload_n 1) by decide +kernel) rfl ?_
  refine jr_1 jm_260 (show jw_cd cd_260 22 = some (.iconst 0) by decide +kernel) rfl ?_
  refine jr_c jm_260 (show jw_cd cd_260 23 = some (.invokevirtual 280) by decide +kernel) (mc_v hl (n := 2) (m2 := 261) (bs := [.int (Int32.ofInt (v0)), .int (Int32.ofInt (0))]) (r := []) (show jw_find jw_cvT 34 280 = some (2, [(16, 261)]) by decide +kernel) (by decide) rfl rfl rfl) jm_261 ⟨Nat.le_of_ble_eq_true rfl, by decide⟩ (jn_enter hl ⟨by rw [su_nf (by decide), su_nf (by decide), su_eq]; decide, by rw [su_nf (by decide), su_nf (by decide), su_eq]; decide⟩) ?_
  refine jr_1 jm_260 (show jw_cd cd_260 26 = some (.iload_n 2) by decide +kernel) rfl ?_
  refine jr_1 jm_260 (F2 := (29, [some (.ref 15), some (.int (Int32.ofInt (v0))), some (.int (Int32.ofInt (fi))), some (.int (Int32.ofInt (bh))), some (.int (Int32.ofInt (0))), some (.int (Int32.ofInt (fi))), none, none, none], [], ml_mk h (mEnter (su (su (su σ 36 (0) (0)) 41 (0) (1)) 40 (0) (0)) v0 0))) (show jw_cd cd_260 27 = some (.istore 5) by decide +kernel) rfl ?_
  exact y1
