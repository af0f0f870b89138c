/-! ===== the class: follow (printed by program: gen126.py) ===== -/
theorem jc_fo141 {β : Bool} {d : Nat} {h1 h2 : jx_H} {κ : mS} (hl1 : 50 ≤ h1.length) (hl2 : 50 ≤ h2.length) {sg i en v0 sp rw a kt rt rka ria : Nat} {e : sE} {L : List vT} {pl b r1 r2 : Int} {le ri : Value} (hsp : 50 ≤ sp ∧ sp < 4000000000) (hrw : 50 ≤ rw ∧ rw < 4000000000) (oR : h1[rw]? = some (.inr (5, [.int (Int32.ofInt (r1)), .int (Int32.ofInt (r2)), .ref rt, .ref rka, .ref ria, .int (Int32.ofInt (((L.length : Nat) : Int)))]))) (oS1 : h1[sp]? = some (.inr (14, [.int (Int32.ofInt (ckd e.1)), .ref kt, .int (Int32.ofInt (cfr e)), .int (Int32.ofInt (cen e)), .int (Int32.ofInt (cby e)), le, .int (Int32.ofInt (cgg e)), ri]))) (oR2 : h2[rw]? = some (.inr (5, [.int (Int32.ofInt (r1)), .int (Int32.ofInt (r2)), .ref rt, .ref rka, .ref ria, .int (Int32.ofInt (((L.length : Nat) : Int)))]))) (oS2 : h2[sp]? = some (.inr (14, [.int (Int32.ofInt (ckd e.1)), .ref kt, .int (Int32.ofInt (cfr e)), .int (Int32.ofInt (cen e)), .int (Int32.ofInt (cby e)), le, .int (Int32.ofInt (cgg e)), ri]))) (c3 : jx_r (jz β) jw_M (d) 93 (0, [some (.int (Int32.ofInt (((L.length : Nat) : Int))))], [], (cl_mk h1 κ)) (cl_mk h2 (κ), .inl (some (.ref (a))))) (c4 : jx_r (jz β) jw_M (d) 169 (0, [some (.ref sp), some (.int (Int32.ofInt (cfr e))), some (.int (Int32.ofInt (((L.length : Nat) : Int)))), none, none, none], [], (cl_mk h2 κ)) (cl_mk h2 (κ), .inl (some (.int (Int32.ofInt (pl)))))) (c5 : jx_r (jz β) jw_M (d) 169 (0, [some (.ref sp), some (.int (Int32.ofInt (cen e))), some (.int (Int32.ofInt (((L.length : Nat) : Int)))), none, none, none], [], (cl_mk h2 κ)) (cl_mk h2 (κ), .inl (some (.int (Int32.ofInt (b)))))) {res : jx_H × (Option Value ⊕ Nat)} (kk : jx_r (jz β) jw_M (d + 1) 164 (188, [some (.ref 10), some (.ref sg), some (.int (Int32.ofInt (((i : Nat) : Int)))), some (.int (Int32.ofInt (((en : Nat) : Int)))), some (.ref v0), some (.ref sp), some (.ref rw), some (.ref a), some (.int (Int32.ofInt (pl))), some (.int (Int32.ofInt (b))), some (.int (Int32.ofInt (((0 : Nat) : Int)))), none], [], (cl_mk h2 κ)) res) : jx_r (jz β) jw_M (d + 1) 164 (141, [some (.ref 10), some (.ref sg), some (.int (Int32.ofInt (((i : Nat) : Int)))), some (.int (Int32.ofInt (((en : Nat) : Int)))), some (.ref v0), some (.ref sp), some (.ref rw), none, none, none, none, none], [], (cl_mk h1 κ)) res := by
  refine jr_1 jm_164 (show jw_cd cd_164 141 = some (.aload 6) by decide +kernel) rfl ?_
  refine jr_1 jm_164 (show jw_cd cd_164 143 = some (.getfield 99) by decide +kernel) (js_getf (cl_old hl1 ⟨by omega, oR⟩) (jbg (by omega)) (show jw_fld 9 99 5 = some 5 by decide +kernel) rfl) ?_
  refine jr_c jm_164 (show jw_cd cd_164 146 = some (.invokestatic 101) by decide +kernel) (mc_s (n := 1) (m2 := 93) (bs := [.int (Int32.ofInt (((L.length : Nat) : Int)))]) (r := []) (by decide) (show jw_find jw_csT 9 101 = some (93, 1) by decide +kernel) rfl rfl rfl) jm_93 ⟨Nat.le_of_ble_eq_true rfl, by decide⟩ c3 ?_
  refine jr_1 jm_164 (F2 := (151, [some (.ref 10), some (.ref sg), some (.int (Int32.ofInt (((i : Nat) : Int)))), some (.int (Int32.ofInt (((en : Nat) : Int)))), some (.ref v0), some (.ref sp), some (.ref rw), some (.ref a), none, none, none, none], [], (cl_mk h2 κ))) (show jw_cd cd_164 149 = some (.astore 7) by decide +kernel) rfl ?_
  refine jr_1 jm_164 (show jw_cd cd_164 151 = some (.aload 5) by decide +kernel) rfl ?_
  refine jr_1 jm_164 (show jw_cd cd_164 153 = some (.aload 5) by decide +kernel) rfl ?_
  refine jr_1 jm_164 (show jw_cd cd_164 155 = some (.getfield 84) by decide +kernel) (js_getf (cl_old hl2 ⟨by omega, oS2⟩) (jbg (by omega)) (show jw_fld 9 84 14 = some 2 by decide +kernel) rfl) ?_
  refine jr_1 jm_164 (show jw_cd cd_164 158 = some (.aload 6) by decide +kernel) rfl ?_
  refine jr_1 jm_164 (show jw_cd cd_164 160 = some (.getfield 99) by decide +kernel) (js_getf (cl_old hl2 ⟨by omega, oR2⟩) (jbg (by omega)) (show jw_fld 9 99 5 = some 5 by decide +kernel) rfl) ?_
  refine jr_c jm_164 (show jw_cd cd_164 163 = some (.invokevirtual 105) by decide +kernel) (ccv (n := 2) (m2 := 169) (ci := 14) (a := sp) (bs := [.int (Int32.ofInt (cfr e)), .int (Int32.ofInt (((L.length : Nat) : Int)))]) (r := []) (js_cls (cl_old hl2 ⟨by omega, oS2⟩) (jbg (by omega))) (show jw_find jw_cvT 9 105 = some (2, [(14, 169)]) by decide +kernel) (by decide) rfl rfl rfl) jm_169 ⟨Nat.le_of_ble_eq_true rfl, by decide⟩ c4 ?_
  refine jr_1 jm_164 (F2 := (168, [some (.ref 10), some (.ref sg), some (.int (Int32.ofInt (((i : Nat) : Int)))), some (.int (Int32.ofInt (((en : Nat) : Int)))), some (.ref v0), some (.ref sp), some (.ref rw), some (.ref a), some (.int (Int32.ofInt (pl))), none, none, none], [], (cl_mk h2 κ))) (show jw_cd cd_164 166 = some (.istore 8) by decide +kernel) rfl ?_
  refine jr_1 jm_164 (show jw_cd cd_164 168 = some (.aload 5) by decide +kernel) rfl ?_
  refine jr_1 jm_164 (show jw_cd cd_164 170 = some (.aload 5) by decide +kernel) rfl ?_
  refine jr_1 jm_164 (show jw_cd cd_164 172 = some (.getfield 109) by decide +kernel) (js_getf (cl_old hl2 ⟨by omega, oS2⟩) (jbg (by omega)) (show jw_fld 9 109 14 = some 3 by decide +kernel) rfl) ?_
  refine jr_1 jm_164 (show jw_cd cd_164 175 = some (.aload 6) by decide +kernel) rfl ?_
  refine jr_1 jm_164 (show jw_cd cd_164 177 = some (.getfield 99) by decide +kernel) (js_getf (cl_old hl2 ⟨by omega, oR2⟩) (jbg (by omega)) (show jw_fld 9 99 5 = some 5 by decide +kernel) rfl) ?_
  refine jr_c jm_164 (show jw_cd cd_164 180 = some (.invokevirtual 105) by decide +kernel) (ccv (n := 2) (m2 := 169) (ci := 14) (a := sp) (bs := [.int (Int32.ofInt (cen e)), .int (Int32.ofInt (((L.length : Nat) : Int)))]) (r := []) (js_cls (cl_old hl2 ⟨by omega, oS2⟩) (jbg (by omega))) (show jw_find jw_cvT 9 105 = some (2, [(14, 169)]) by decide +kernel) (by decide) rfl rfl rfl) jm_169 ⟨Nat.le_of_ble_eq_true rfl, by decide⟩ c5 ?_
  refine jr_1 jm_164 (F2 := (185, [some (.ref 10), some (.ref sg), some (.int (Int32.ofInt (((i : Nat) : Int)))), some (.int (Int32.ofInt (((en : Nat) : Int)))), some (.ref v0), some (.ref sp), some (.ref rw), some (.ref a), some (.int (Int32.ofInt (pl))), some (.int (Int32.ofInt (b))), none, none], [], (cl_mk h2 κ))) (show jw_cd cd_164 183 = some (.istore 9) by decide +kernel) rfl ?_
  refine jr_1 jm_164 (show jw_cd cd_164 185 = some (.iconst 0) by decide +kernel) rfl ?_
  refine jr_1 jm_164 (F2 := (188, [some (.ref 10), some (.ref sg), some (.int (Int32.ofInt (((i : Nat) : Int)))), some (.int (Int32.ofInt (((en : Nat) : Int)))), some (.ref v0), some (.ref sp), some (.ref rw), some (.ref a), some (.int (Int32.ofInt (pl))), some (.int (Int32.ofInt (b))), some (.int (Int32.ofInt (0))), none], [], (cl_mk h2 κ))) (show jw_cd cd_164 186 = some (.istore 10) by decide +kernel) rfl ?_
  exact kk
theorem flP_nil {β : Bool} : flP β [] := by
  intro D i en h κ X sg tt la ea cap fs ls v0 x hle hil hen hD hl hx hlen hst hv hp
  have hil : i + 0 = en := hil
  have hO := vR_O (κ := κ) hl (vQ_R hv)
  obtain ⟨o0, t, ka, ia, kc0, ic0, f0, g0, ⟨o1, o2⟩, hA, -⟩ := id hO
  have hls := hst.2.2.2.2
  refine ⟨h, v0, ?_, ?_, fun c y hy => hy, ⟨Nat.le_refl _, Nat.le_add_right _ _⟩, by omega⟩
  rotate_left
  · cases x with
    | none => exact hv
    | some v => exact hv
  refine jr_1 jm_164 (show jw_cd cd_164 0 = some (.iload_n 2) by decide +kernel) rfl ?_
  refine jr_1 jm_164 (show jw_cd cd_164 1 = some (.ifCond .lt 19) by decide +kernel) (mz_f (q := .lt) (a := ((i : Nat) : Int)) (by show ¬ (((i : Nat) : Int) < 0); omega) ⟨by omega, by omega⟩ (by decide)) ?_
  refine jr_1 jm_164 (show jw_cd cd_164 4 = some (.iload_n 2) by decide +kernel) rfl ?_
  refine jr_1 jm_164 (show jw_cd cd_164 5 = some (.iload_n 3) by decide +kernel) rfl ?_
  refine jr_1 jm_164 (show jw_cd cd_164 6 = some (.if_icmp .ge 14) by decide +kernel) (mb_t (q := .ge) (a := ((i : Nat) : Int)) (b := ((en : Nat) : Int)) (t := 20) (by show ((en : Nat) : Int) ≤ ((i : Nat) : Int); omega) ⟨by omega, by omega⟩ ⟨by omega, by omega⟩ (by decide) (by decide)) ?_
  refine jr_1 jm_164 (show jw_cd cd_164 20 = some (.aload 4) by decide +kernel) rfl ?_
  exact jr_v jm_164 (show jw_cd cd_164 22 = some (.areturn) by decide +kernel) rfl
theorem bdS_r {z x : Int} {n : Nat} (hz : ¬ z = 0) : (0 < z → 0 ≤ bdS z x n ∧ bdS z x n ≤ n) ∧ (z ≤ 0 → -1 ≤ bdS z x n ∧ bdS z x n ≤ n - 1) := by
  unfold bdS
  constructor
  · intro h
    have a1 : slLo z = 0 := if_pos h
    have a2 : slHi z (n : Int) = n := if_pos h
    have := clp_r (lo := slLo z) (hi := slHi z (n : Int)) (x := if x < 0 then x + (n : Int) else x) (by omega)
    omega
  · intro h
    have a1 : slLo z = -1 := if_neg (by omega)
    have a2 : slHi z (n : Int) = n - 1 := if_neg (by omega)
    have := clp_r (lo := slLo z) (hi := slHi z (n : Int)) (x := if x < 0 then x + (n : Int) else x) (by omega)
    omega
theorem stO_rng {e : sE} (he : stO e) : (-1000001 ≤ cfr e ∧ cfr e ≤ 1000001) ∧ (-1000001 ≤ cen e ∧ cen e ≤ 1000001) ∧ (-1000000 < cby e ∧ cby e < 1000000 ∧ ¬ cby e = 0) := by
  unfold cfr cen cby
  by_cases h1 : e.1 = 1
  · have hn := he.2.2.1 h1
    obtain ⟨-, a1, -, -⟩ := hn
    rw [if_pos h1, if_neg (by omega), if_neg (by omega)]
    omega
  rw [if_neg h1]
  by_cases h5 : e.1 = 5
  · obtain ⟨⟨-, a1, a2, a3⟩, hc⟩ := he.2.2.2.2 h5
    rw [if_pos h5, if_pos h5, if_pos h5]
    have hz : -1000000 < slC e.2.2.1 ∧ slC e.2.2.1 < 1000000 := by
      unfold slC
      split <;> omega
    refine ⟨?_, ?_, hz.1, hz.2, hc⟩
    · split
      · omega
      · split <;> decide
    · split
      · omega
      · split <;> decide
  · rw [if_neg h5, if_neg h5, if_neg h5]
    decide
theorem rwL_p {e : sE} {F : FT} (hw : fwf F) (hc : cnF F) (hd : fdp F ≤ 8) (hf : fct F ≤ 390) : (rwL e F).length ≤ 390 ∧ ∀ y ∈ rwL e F, vok y ∧ cnV y ∧ fdp y.2 ≤ 8 ∧ fct y.2 ≤ 390 := by
  have hm : ∀ y ∈ rwL e F, vok y ∧ cnV y ∧ 1 + fdp y.2 ≤ fdp F := by
    intro y hy
    unfold rwL at hy
    by_cases h6 : e.1 = 6
    · rw [if_pos h6] at hy
      have hs : y ∈ selS e F := by
        unfold selS
        rw [if_neg (by omega), if_neg (by omega), if_pos h6]
        exact hy
      have h2 := selS_I hc hs
      exact ⟨selS_ok hw hs, h2.1, h2.2⟩
    · rw [if_neg h6] at hy
      exact ⟨sib_ok F hw y hy, cn_sib F hc y hy, fdp_sib F y hy⟩
  have hws : wS (rwL e F) ≤ fct F := by
    unfold rwL
    by_cases h6 : e.1 = 6
    · rw [if_pos h6]
      have := flat_w (sib F)
      rw [wS_sib] at this
      exact this
    · rw [if_neg h6, wS_sib]
      exact Nat.le_refl _
  refine ⟨Nat.le_trans (wS_len _) (by omega), fun y hy => ?_⟩
  obtain ⟨a1, a2, a3⟩ := hm y hy
  have := wS_mem _ y hy
  exact ⟨a1, a2, by omega, by omega⟩
theorem sib_flk : ∀ (L : List vT) (q : Nat) (y : vT), L[q]? = some y → (sib (fl L))[q]? = some (wk y.1 [], y.2)
  | [], q, y, h => by cases h
  | (i, c) :: L, 0, y, h => by
    injection h with h
    rw [← h]
    rfl
  | (i, c) :: L, q + 1, y, h => sib_flk L q y h
theorem flP_cons {β : Bool} {e : sE} {l : List sE} (hP : flP β l) : flP β (e :: l) := by
  intro D i en h κ X sg tt la ea cap fs ls v0 x hle hil hen hD hl hx hlen hst hv hp
  have hil : i + (l.length + 1) = en := hil
  have hD : l.length + 1 + 13 ≤ D := hD
  have hO := vR_O (κ := κ) hl (vQ_R hv)
  obtain ⟨o0, t, ka, ia, kc0, ic0, f0, g0, ⟨o1, o2⟩, hA, -⟩ := id hO
  obtain ⟨vok', vcn, vdp, vct⟩ := hp
  obtain ⟨⟨zg, oG⟩, hal, hspl, hsO, hls⟩ := id hst
  have zg1 := zg.1
  have zg2 := zg.2.1
  obtain ⟨zla, ⟨md, oL⟩, -⟩ := id hal
  have zl1 := zla.1
  have zl2 := zla.2.1
  have hlei : ls[i]? = some e := by
    have e1 : (ls.take en)[i]? = some e := by
      rw [← List.head?_drop, ← hle]
      rfl
    rw [List.getElem?_take] at e1
    rw [if_pos (by omega)] at e1
    exact e1
  have hle2 : l = (ls.take en).drop (i + 1) := by
    rw [← List.tail_drop, ← hle]
    rfl
  have hem := List.mem_of_getElem? hlei
  have heO := hsO e hem
  have he06 := heO.1
  have hck := ckd4 he06
  obtain ⟨sp, hfi, hsp⟩ := hspl i e hlei
  obtain ⟨zs, kt, le, ri, oS, hkt, -⟩ := id hsp
  have zs1 := zs.1
  have zs2 := zs.2.1
  obtain ⟨D', rfl⟩ : ∃ D', D = D' + 14 := ⟨D - 14, by omega⟩
  have hUl := spL_U hal hspl
  have cz := jc_alSz (β := β) (d := D' + 13) (κ := κ) hl hUl
  have cg := jc_alGet (β := β) (d := D' + 11) (κ := κ) (i := i) hl hUl (by omega) hfi
  obtain ⟨rg1, rg2, rg3⟩ := stO_rng heO
  have i1 := vok'.1.1
  have i2 := vok'.1.2.1
  -- a step that picks
  have pick : e.1 ≤ 1 → ∀ c, vQ h X c (pckS e (dv x)) → (∀ (h' : jx_H) (c' : Nat), jx_r (jz β) jw_M (D' + 13) 164 (0, [some (.ref 10), some (.ref sg), some (.int (Int32.ofInt (((i + 1 : Nat) : Int)))), some (.int (Int32.ofInt (((en : Nat) : Int)))), some (.ref c), none, none, none, none, none, none, none], [], (cl_mk h κ)) (cl_mk h' (κ), .inl (some (.ref (c')))) → jx_r (jz β) jw_M (D' + 14) 164 (0, [some (.ref 10), some (.ref sg), some (.int (Int32.ofInt (((i : Nat) : Int)))), some (.int (Int32.ofInt (((en : Nat) : Int)))), some (.ref v0), none, none, none, none, none, none, none], [], (cl_mk h κ)) (cl_mk h' (κ), .inl (some (.ref (c'))))) → ∃ (h' : jx_H) (c : Nat), jx_r (jz β) jw_M (D' + 14) 164 (0, [some (.ref 10), some (.ref sg), some (.int (Int32.ofInt (((i : Nat) : Int)))), some (.int (Int32.ofInt (((en : Nat) : Int)))), some (.ref v0), none, none, none, none, none, none, none], [], (cl_mk h κ)) (cl_mk h' (κ), .inl (some (.ref (c)))) ∧ vQ h' X c (x.bind (evS (e :: l))) ∧ (∀ (c : Nat) (y : jx_C), h[c]? = some y → h'[c]? = some y) ∧ (h.length ≤ h'.length ∧ h'.length ≤ h.length + 3 * clO (e :: l) x) ∧ cvol h' ≤ cvol h + 6 * clO (e :: l) x + rsO (e :: l) x := by
    intro he1 c hc run
    have ex : x.bind (evS (e :: l)) = (pckS e (dv x)).bind (evS l) := by
      cases x with
      | none =>
        have e0 : pckS e (dv none) = none := by
          unfold pckS
          by_cases h0 : e.1 = 0
          · rw [if_pos h0]
            exact if_neg (by decide)
          · rw [if_neg h0]
            exact if_neg (fun z => absurd z.1 (by decide))
        rw [e0]
        rfl
      | some v => exact evS_pck he1 l v
    have ec : clO (e :: l) x = clO l (pckS e (dv x)) ∧ rsO (e :: l) x = rsO l (pckS e (dv x)) := by
      cases x with
      | none =>
        have e0 : pckS e (dv none) = none := by
          unfold pckS
          by_cases h0 : e.1 = 0
          · rw [if_pos h0]
            exact if_neg (by decide)
          · rw [if_neg h0]
            exact if_neg (fun z => absurd z.1 (by decide))
        rw [e0]
        exact ⟨rfl, rfl⟩
      | some v =>
        show clN (e :: l) v = clO l (pckS e v) ∧ rsN (e :: l) v = rsO l (pckS e v)
        unfold clN rsN
        rw [if_pos he1, if_pos he1]
        cases pckS e v with
        | none => exact ⟨rfl, rfl⟩
        | some w => exact ⟨rfl, rfl⟩
    have hpx : vok (dv (pckS e (dv x))) ∧ cnV (dv (pckS e (dv x))) ∧ fdp (dv (pckS e (dv x))).2 ≤ 8 ∧ fct (dv (pckS e (dv x))).2 ≤ 390 := by
      cases hpk : pckS e (dv x) with
      | none => exact ⟨nulV_ok, nulV_cn, Nat.zero_le _, Nat.zero_le _⟩
      | some w =>
        have a1 := pckS_ok vok' hpk
        have a2 := pck_I vcn hpk
        exact ⟨a1.1, a2.1, Nat.le_trans a2.2.1 vdp, by show fct w.2 ≤ 390; omega⟩
    rw [ec.1] at hlen
    obtain ⟨h', c', r1, r2, r3, r4, r5⟩ := hP (D' + 13) (i + 1) en h κ X sg tt la ea cap fs ls c _ hle2 (by omega) hen (by omega) hl hx hlen hst hc hpx
    rw [ex, ec.1, ec.2]
    exact ⟨h', c', run h' c' r1, r2, r3, r4, r5⟩
  by_cases he0 : e.1 = 0
  · have hk0 : ckd e.1 = 0 := by rw [he0]; rfl
    have hky : cky e = e.2.1 := if_pos he0
    rw [hky] at hkt
    obtain ⟨r1, r2⟩ := jc_atR (β := β) (d := D' + 11) (o := 7) (κ := κ) hl hO vok'.2 hkt (heO.2.1 he0)
    have epk : pckS e (dv x) = vget e.2.1 (dv x).1 (dv x).2 := if_pos he0
    have nx : ∃ c, jx_r (jz β) jw_M (D' + 13) 165 (0, [some (.ref v0), some (.ref kt), some (.ref 7), none], [], (cl_mk h κ)) (cl_mk h (κ), .inl (some (.ref (c)))) ∧ vQ h X c (pckS e (dv x)) := by
      rw [epk]
      cases hg : vget e.2.1 (dv x).1 (dv x).2 with
      | none => exact ⟨7, r2 hg, rfl⟩
      | some y =>
        obtain ⟨b, b1, b2⟩ := r1 y hg
        exact ⟨b, b1, Or.inr b2⟩
    obtain ⟨c, c1, hc⟩ := nx
    refine pick (by omega) c hc (fun h' c' c2 => ?_)
    refine jr_1 jm_164 (show jw_cd cd_164 0 = some (.iload_n 2) by decide +kernel) rfl ?_
    refine jr_1 jm_164 (show jw_cd cd_164 1 = some (.ifCond .lt 19) by decide +kernel) (mz_f (q := .lt) (a := ((i : Nat) : Int)) (by show ¬ (((i : Nat) : Int) < 0); omega) ⟨by omega, by omega⟩ (by decide)) ?_
    refine jr_1 jm_164 (show jw_cd cd_164 4 = some (.iload_n 2) by decide +kernel) rfl ?_
    refine jr_1 jm_164 (show jw_cd cd_164 5 = some (.iload_n 3) by decide +kernel) rfl ?_
    refine jr_1 jm_164 (show jw_cd cd_164 6 = some (.if_icmp .ge 14) by decide +kernel) (mb_f (q := .ge) (a := ((i : Nat) : Int)) (b := ((en : Nat) : Int)) (by show ¬ (((en : Nat) : Int) ≤ ((i : Nat) : Int)); omega) ⟨by omega, by omega⟩ ⟨by omega, by omega⟩ (by decide)) ?_
    refine jr_1 jm_164 (show jw_cd cd_164 9 = some (.iload_n 2) by decide +kernel) rfl ?_
    refine jr_1 jm_164 (show jw_cd cd_164 10 = some (.aload_n 1) by decide +kernel) rfl ?_
    refine jr_1 jm_164 (show jw_cd cd_164 11 = some (.getfield 65) by decide +kernel) (js_getf (cl_old hl ⟨by omega, oG⟩) (jbg (by omega)) (show jw_fld 9 65 13 = some 2 by decide +kernel) rfl) ?_
    refine jr_c jm_164 (show jw_cd cd_164 14 = some (.invokevirtual 34) by decide +kernel) (ccv (n := 0) (m2 := 159) (ci := 12) (a := la) (bs := []) (r := [.int (Int32.ofInt (((i : Nat) : Int)))]) (js_cls (cl_old hl ⟨by omega, oL⟩) (jbg (by omega))) (show jw_find jw_cvT 9 34 = some (0, [(12, 159)]) by decide +kernel) (by decide) rfl rfl rfl) jm_159 ⟨Nat.le_of_ble_eq_true rfl, by decide⟩ cz ?_
    refine jr_1 jm_164 (show jw_cd cd_164 17 = some (.if_icmp .lt 6) by decide +kernel) (mb_t (q := .lt) (a := ((i : Nat) : Int)) (b := ((ls.length : Nat) : Int)) (t := 23) (by show ((i : Nat) : Int) < ((ls.length : Nat) : Int); omega) ⟨by omega, by omega⟩ ⟨by omega, by omega⟩ (by decide) (by decide)) ?_
    refine jr_1 jm_164 (show jw_cd cd_164 23 = some (.aload_n 1) by decide +kernel) rfl ?_
    refine jr_1 jm_164 (show jw_cd cd_164 24 = some (.getfield 65) by decide +kernel) (js_getf (cl_old hl ⟨by omega, oG⟩) (jbg (by omega)) (show jw_fld 9 65 13 = some 2 by decide +kernel) rfl) ?_
    refine jr_1 jm_164 (show jw_cd cd_164 27 = some (.iload_n 2) by decide +kernel) rfl ?_
    refine jr_c jm_164 (show jw_cd cd_164 28 = some (.invokevirtual 40) by decide +kernel) (ccv (n := 1) (m2 := 160) (ci := 12) (a := la) (bs := [.int (Int32.ofInt (((i : Nat) : Int)))]) (r := []) (js_cls (cl_old hl ⟨by omega, oL⟩) (jbg (by omega))) (show jw_find jw_cvT 9 40 = some (1, [(12, 160)]) by decide +kernel) (by decide) rfl rfl rfl) jm_160 ⟨Nat.le_of_ble_eq_true rfl, by decide⟩ cg ?_
    refine jr_1 jm_164 (show jw_cd cd_164 31 = some (.checkcast 68) by decide +kernel) (cck (js_cls (cl_old hl ⟨by omega, oS⟩) (jbg (by omega))) (show jw_ct 9 68 14 = some true by decide +kernel)) ?_
    refine jr_1 jm_164 (F2 := (36, [some (.ref 10), some (.ref sg), some (.int (Int32.ofInt (((i : Nat) : Int)))), some (.int (Int32.ofInt (((en : Nat) : Int)))), some (.ref v0), some (.ref sp), none, none, none, none, none, none], [], (cl_mk h κ))) (show jw_cd cd_164 34 = some (.astore 5) by decide +kernel) rfl ?_
    refine jr_1 jm_164 (show jw_cd cd_164 36 = some (.aload 5) by decide +kernel) rfl ?_
    refine jr_1 jm_164 (show jw_cd cd_164 38 = some (.getfield 70) by decide +kernel) (js_getf (cl_old hl ⟨by omega, oS⟩) (jbg (by omega)) (show jw_fld 9 70 14 = some 0 by decide +kernel) rfl) ?_
    refine jr_1 jm_164 (show jw_cd cd_164 41 = some (.ifCond .ne 27) by decide +kernel) (mz_f (q := .ne) (a := ckd e.1) (by show ¬ (¬ (ckd e.1 = 0)); omega) ⟨by omega, by omega⟩ (by decide)) ?_
    refine jr_1 jm_164 (show jw_cd cd_164 44 = some (.aload_n 0) by decide +kernel) rfl ?_
    refine jr_1 jm_164 (show jw_cd cd_164 45 = some (.aload_n 1) by decide +kernel) rfl ?_
    refine jr_1 jm_164 (show jw_cd cd_164 46 = some (.iload_n 2) by decide +kernel) rfl ?_
    refine jr_1 jm_164 (show jw_cd cd_164 47 = some (.iconst 1) by decide +kernel) rfl ?_
    refine jr_1 jm_164 (show jw_cd cd_164 48 = some (.iadd) by decide +kernel) (mt_add (c := ((i : Nat) : Int) + 1) rfl) ?_
    refine jr_1 jm_164 (show jw_cd cd_164 49 = some (.iload_n 3) by decide +kernel) rfl ?_
    refine jr_1 jm_164 (show jw_cd cd_164 50 = some (.aload 4) by decide +kernel) rfl ?_
    refine jr_1 jm_164 (show jw_cd cd_164 52 = some (.aload 5) by decide +kernel) rfl ?_
    refine jr_1 jm_164 (show jw_cd cd_164 54 = some (.getfield 77) by decide +kernel) (js_getf (cl_old hl ⟨by omega, oS⟩) (jbg (by omega)) (show jw_fld 9 77 14 = some 1 by decide +kernel) rfl) ?_
    refine jr_1 jm_164 (show jw_cd cd_164 57 = some (.aload_n 0) by decide +kernel) rfl ?_
    refine jr_1 jm_164 (show jw_cd cd_164 58 = some (.getfield 9) by decide +kernel) (cgr_10_0 (show jw_fld 9 9 6 = some 0 by decide +kernel)) ?_
    refine jr_c jm_164 (show jw_cd cd_164 61 = some (.invokevirtual 78) by decide +kernel) (ccv (n := 2) (m2 := 165) (ci := 5) (a := v0) (bs := [.ref kt, .ref 7]) (r := [.int (Int32.ofInt (((en : Nat) : Int))), .int (Int32.ofInt (((i : Nat) : Int) + 1)), .ref sg, .ref 10]) (js_cls hA (jbg (by omega))) (show jw_find jw_cvT 9 78 = some (2, [(5, 165)]) by decide +kernel) (by decide) rfl rfl rfl) jm_165 ⟨Nat.le_of_ble_eq_true rfl, by decide⟩ c1 ?_
    refine jr_c jm_164 (show jw_cd cd_164 64 = some (.invokevirtual 73) by decide +kernel) (ccv (n := 4) (m2 := 164) (ci := 6) (a := 10) (bs := [.ref sg, .int (Int32.ofInt (((i : Nat) : Int) + 1)), .int (Int32.ofInt (((en : Nat) : Int))), .ref c]) (r := []) (js_cls cl_c10 (by decide)) (show jw_find jw_cvT 9 73 = some (4, [(6, 164)]) by decide +kernel) (by decide) rfl rfl rfl) jm_164 ⟨Nat.le_of_ble_eq_true rfl, by decide⟩ c2 ?_
    exact jr_v jm_164 (show jw_cd cd_164 67 = some (.areturn) by decide +kernel) rfl
  by_cases he1 : e.1 = 1
  · have hk1 : ckd e.1 = 1 := by rw [he1]; rfl
    have hfr : cfr e = e.2.2.1.2.1 := if_pos he1
    obtain ⟨r1, r2⟩ := jc_elem (β := β) (d := D' + 13) (o := 7) (κ := κ) (v := dv x) (x := cfr e) hl hO rg1 ⟨i1, i2⟩
    have epk : pckS e (dv x) = idxS (cfr e) (dv x) := by
      rw [hfr]
      exact if_neg he0
    have nx : ∃ c, jx_r (jz β) jw_M (D' + 13) 166 (0, [some (.ref v0), some (.int (Int32.ofInt (cfr e))), some (.ref 7), none], [], (cl_mk h κ)) (cl_mk h (κ), .inl (some (.ref (c)))) ∧ vQ h X c (pckS e (dv x)) := by
      rw [epk]
      cases hg : idxS (cfr e) (dv x) with
      | none => exact ⟨7, r2 hg, rfl⟩
      | some y =>
        obtain ⟨b, b1, b2⟩ := r1 y hg
        exact ⟨b, b1, Or.inr b2⟩
    obtain ⟨c, c1, hc⟩ := nx
    refine pick (by omega) c hc (fun h' c' c2 => ?_)
    refine jr_1 jm_164 (show jw_cd cd_164 0 = some (.iload_n 2) by decide +kernel) rfl ?_
    refine jr_1 jm_164 (show jw_cd cd_164 1 = some (.ifCond .lt 19) by decide +kernel) (mz_f (q := .lt) (a := ((i : Nat) : Int)) (by show ¬ (((i : Nat) : Int) < 0); omega) ⟨by omega, by omega⟩ (by decide)) ?_
    refine jr_1 jm_164 (show jw_cd cd_164 4 = some (.iload_n 2) by decide +kernel) rfl ?_
    refine jr_1 jm_164 (show jw_cd cd_164 5 = some (.iload_n 3) by decide +kernel) rfl ?_
    refine jr_1 jm_164 (show jw_cd cd_164 6 = some (.if_icmp .ge 14) by decide +kernel) (mb_f (q := .ge) (a := ((i : Nat) : Int)) (b := ((en : Nat) : Int)) (by show ¬ (((en : Nat) : Int) ≤ ((i : Nat) : Int)); omega) ⟨by omega, by omega⟩ ⟨by omega, by omega⟩ (by decide)) ?_
    refine jr_1 jm_164 (show jw_cd cd_164 9 = some (.iload_n 2) by decide +kernel) rfl ?_
    refine jr_1 jm_164 (show jw_cd cd_164 10 = some (.aload_n 1) by decide +kernel) rfl ?_
    refine jr_1 jm_164 (show jw_cd cd_164 11 = some (.getfield 65) by decide +kernel) (js_getf (cl_old hl ⟨by omega, oG⟩) (jbg (by omega)) (show jw_fld 9 65 13 = some 2 by decide +kernel) rfl) ?_
    refine jr_c jm_164 (show jw_cd cd_164 14 = some (.invokevirtual 34) by decide +kernel) (ccv (n := 0) (m2 := 159) (ci := 12) (a := la) (bs := []) (r := [.int (Int32.ofInt (((i : Nat) : Int)))]) (js_cls (cl_old hl ⟨by omega, oL⟩) (jbg (by omega))) (show jw_find jw_cvT 9 34 = some (0, [(12, 159)]) by decide +kernel) (by decide) rfl rfl rfl) jm_159 ⟨Nat.le_of_ble_eq_true rfl, by decide⟩ cz ?_
    refine jr_1 jm_164 (show jw_cd cd_164 17 = some (.if_icmp .lt 6) by decide +kernel) (mb_t (q := .lt) (a := ((i : Nat) : Int)) (b := ((ls.length : Nat) : Int)) (t := 23) (by show ((i : Nat) : Int) < ((ls.length : Nat) : Int); omega) ⟨by omega, by omega⟩ ⟨by omega, by omega⟩ (by decide) (by decide)) ?_
    refine jr_1 jm_164 (show jw_cd cd_164 23 = some (.aload_n 1) by decide +kernel) rfl ?_
    refine jr_1 jm_164 (show jw_cd cd_164 24 = some (.getfield 65) by decide +kernel) (js_getf (cl_old hl ⟨by omega, oG⟩) (jbg (by omega)) (show jw_fld 9 65 13 = some 2 by decide +kernel) rfl) ?_
    refine jr_1 jm_164 (show jw_cd cd_164 27 = some (.iload_n 2) by decide +kernel) rfl ?_
    refine jr_c jm_164 (show jw_cd cd_164 28 = some (.invokevirtual 40) by decide +kernel) (ccv (n := 1) (m2 := 160) (ci := 12) (a := la) (bs := [.int (Int32.ofInt (((i : Nat) : Int)))]) (r := []) (js_cls (cl_old hl ⟨by omega, oL⟩) (jbg (by omega))) (show jw_find jw_cvT 9 40 = some (1, [(12, 160)]) by decide +kernel) (by decide) rfl rfl rfl) jm_160 ⟨Nat.le_of_ble_eq_true rfl, by decide⟩ cg ?_
    refine jr_1 jm_164 (show jw_cd cd_164 31 = some (.checkcast 68) by decide +kernel) (cck (js_cls (cl_old hl ⟨by omega, oS⟩) (jbg (by omega))) (show jw_ct 9 68 14 = some true by decide +kernel)) ?_
    refine jr_1 jm_164 (F2 := (36, [some (.ref 10), some (.ref sg), some (.int (Int32.ofInt (((i : Nat) : Int)))), some (.int (Int32.ofInt (((en : Nat) : Int)))), some (.ref v0), some (.ref sp), none, none, none, none, none, none], [], (cl_mk h κ))) (show jw_cd cd_164 34 = some (.astore 5) by decide +kernel) rfl ?_
    refine jr_1 jm_164 (show jw_cd cd_164 36 = some (.aload 5) by decide +kernel) rfl ?_
    refine jr_1 jm_164 (show jw_cd cd_164 38 = some (.getfield 70) by decide +kernel) (js_getf (cl_old hl ⟨by omega, oS⟩) (jbg (by omega)) (show jw_fld 9 70 14 = some 0 by decide +kernel) rfl) ?_
    refine jr_1 jm_164 (show jw_cd cd_164 41 = some (.ifCond .ne 27) by decide +kernel) (mz_t (q := .ne) (a := ckd e.1) (t := 68) (by show ¬ (ckd e.1 = 0); omega) ⟨by omega, by omega⟩ (by decide) (by decide)) ?_
    refine jr_1 jm_164 (show jw_cd cd_164 68 = some (.aload 5) by decide +kernel) rfl ?_
    refine jr_1 jm_164 (show jw_cd cd_164 70 = some (.getfield 70) by decide +kernel) (js_getf (cl_old hl ⟨by omega, oS⟩) (jbg (by omega)) (show jw_fld 9 70 14 = some 0 by decide +kernel) rfl) ?_
    refine jr_1 jm_164 (show jw_cd cd_164 73 = some (.iconst 1) by decide +kernel) rfl ?_
    refine jr_1 jm_164 (show jw_cd cd_164 74 = some (.if_icmp .ne 27) by decide +kernel) (mb_f (q := .ne) (a := ckd e.1) (b := 1) (by show ¬ (¬ (ckd e.1 = 1)); omega) ⟨by omega, by omega⟩ ⟨by omega, by omega⟩ (by decide)) ?_
    refine jr_1 jm_164 (show jw_cd cd_164 77 = some (.aload_n 0) by decide +kernel) rfl ?_
    refine jr_1 jm_164 (show jw_cd cd_164 78 = some (.aload_n 1) by decide +kernel) rfl ?_
    refine jr_1 jm_164 (show jw_cd cd_164 79 = some (.iload_n 2) by decide +kernel) rfl ?_
    refine jr_1 jm_164 (show jw_cd cd_164 80 = some (.iconst 1) by decide +kernel) rfl ?_
    refine jr_1 jm_164 (show jw_cd cd_164 81 = some (.iadd) by decide +kernel) (mt_add (c := ((i : Nat) : Int) + 1) rfl) ?_
    refine jr_1 jm_164 (show jw_cd cd_164 82 = some (.iload_n 3) by decide +kernel) rfl ?_
    refine jr_1 jm_164 (show jw_cd cd_164 83 = some (.aload 4) by decide +kernel) rfl ?_
    refine jr_1 jm_164 (show jw_cd cd_164 85 = some (.aload 5) by decide +kernel) rfl ?_
    refine jr_1 jm_164 (show jw_cd cd_164 87 = some (.getfield 84) by decide +kernel) (js_getf (cl_old hl ⟨by omega, oS⟩) (jbg (by omega)) (show jw_fld 9 84 14 = some 2 by decide +kernel) rfl) ?_
    refine jr_1 jm_164 (show jw_cd cd_164 90 = some (.aload_n 0) by decide +kernel) rfl ?_
    refine jr_1 jm_164 (show jw_cd cd_164 91 = some (.getfield 9) by decide +kernel) (cgr_10_0 (show jw_fld 9 9 6 = some 0 by decide +kernel)) ?_
    refine jr_c jm_164 (show jw_cd cd_164 94 = some (.invokevirtual 87) by decide +kernel) (ccv (n := 2) (m2 := 166) (ci := 5) (a := v0) (bs := [.int (Int32.ofInt (cfr e)), .ref 7]) (r := [.int (Int32.ofInt (((en : Nat) : Int))), .int (Int32.ofInt (((i : Nat) : Int) + 1)), .ref sg, .ref 10]) (js_cls hA (jbg (by omega))) (show jw_find jw_cvT 9 87 = some (2, [(5, 166)]) by decide +kernel) (by decide) rfl rfl rfl) jm_166 ⟨Nat.le_of_ble_eq_true rfl, by decide⟩ c1 ?_
    refine jr_c jm_164 (show jw_cd cd_164 97 = some (.invokevirtual 73) by decide +kernel) (ccv (n := 4) (m2 := 164) (ci := 6) (a := 10) (bs := [.ref sg, .int (Int32.ofInt (((i : Nat) : Int) + 1)), .int (Int32.ofInt (((en : Nat) : Int))), .ref c]) (r := []) (js_cls cl_c10 (by decide)) (show jw_find jw_cvT 9 73 = some (4, [(6, 164)]) by decide +kernel) (by decide) rfl rfl rfl) jm_164 ⟨Nat.le_of_ble_eq_true rfl, by decide⟩ c2 ?_
    exact jr_v jm_164 (show jw_cd cd_164 100 = some (.areturn) by decide +kernel) rfl
  have hk2 : 2 ≤ ckd e.1 := by
    unfold ckd
    split
    · decide
    · split <;> omega
  have hn1 : ¬ e.1 ≤ 1 := by omega
  have ck3 : (ckd e.1 = 3 ↔ e.1 = 3) ∧ (ckd e.1 = 5 ↔ e.1 = 6) := by
    unfold ckd
    split
    · omega
    · split <;> omega
  have c1 := jc_takes (β := β) (d := D' + 13) (κ := κ) hl ⟨zs1, zs2⟩ oS hck.2
  obtain ⟨tk, etk⟩ : ∃ tk : Int, tk = if ckd e.1 = 3 then 6 else 5 := ⟨_, rfl⟩
  rw [← etk] at c1
  have htk : tk = if e.1 = 3 then 6 else 5 := by
    rw [etk]
    by_cases z : e.1 = 3
    · rw [if_pos (ck3.1.mpr z), if_pos z]
    · rw [if_neg (fun y => z (ck3.1.mp y)), if_neg z]
  have htr : 5 ≤ tk ∧ tk ≤ 6 := by rw [htk]; split <;> decide
  by_cases hfit : ¬ (dv x).1.1 = tk
  · have ex : x.bind (evS (e :: l)) = none := by
      cases x with
      | none => rfl
      | some v =>
        show evS (e :: l) v = none
        rw [evS_prj hn1]
        unfold prS
        rw [if_neg (by unfold fitP; rw [decide_eq_true_eq]; exact fun z => hfit (by rw [htk]; exact z))]
    rw [ex]
    refine ⟨h, 7, ?_, rfl, fun c y hy => hy, ⟨Nat.le_refl _, Nat.le_add_right _ _⟩, by omega⟩
    refine jr_1 jm_164 (show jw_cd cd_164 0 = some (.iload_n 2) by decide +kernel) rfl ?_
    refine jr_1 jm_164 (show jw_cd cd_164 1 = some (.ifCond .lt 19) by decide +kernel) (mz_f (q := .lt) (a := ((i : Nat) : Int)) (by show ¬ (((i : Nat) : Int) < 0); omega) ⟨by omega, by omega⟩ (by decide)) ?_
    refine jr_1 jm_164 (show jw_cd cd_164 4 = some (.iload_n 2) by decide +kernel) rfl ?_
    refine jr_1 jm_164 (show jw_cd cd_164 5 = some (.iload_n 3) by decide +kernel) rfl ?_
    refine jr_1 jm_164 (show jw_cd cd_164 6 = some (.if_icmp .ge 14) by decide +kernel) (mb_f (q := .ge) (a := ((i : Nat) : Int)) (b := ((en : Nat) : Int)) (by show ¬ (((en : Nat) : Int) ≤ ((i : Nat) : Int)); omega) ⟨by omega, by omega⟩ ⟨by omega, by omega⟩ (by decide)) ?_
    refine jr_1 jm_164 (show jw_cd cd_164 9 = some (.iload_n 2) by decide +kernel) rfl ?_
    refine jr_1 jm_164 (show jw_cd cd_164 10 = some (.aload_n 1) by decide +kernel) rfl ?_
    refine jr_1 jm_164 (show jw_cd cd_164 11 = some (.getfield 65) by decide +kernel) (js_getf (cl_old hl ⟨by omega, oG⟩) (jbg (by omega)) (show jw_fld 9 65 13 = some 2 by decide +kernel) rfl) ?_
    refine jr_c jm_164 (show jw_cd cd_164 14 = some (.invokevirtual 34) by decide +kernel) (ccv (n := 0) (m2 := 159) (ci := 12) (a := la) (bs := []) (r := [.int (Int32.ofInt (((i : Nat) : Int)))]) (js_cls (cl_old hl ⟨by omega, oL⟩) (jbg (by omega))) (show jw_find jw_cvT 9 34 = some (0, [(12, 159)]) by decide +kernel) (by decide) rfl rfl rfl) jm_159 ⟨Nat.le_of_ble_eq_true rfl, by decide⟩ cz ?_
    refine jr_1 jm_164 (show jw_cd cd_164 17 = some (.if_icmp .lt 6) by decide +kernel) (mb_t (q := .lt) (a := ((i : Nat) : Int)) (b := ((ls.length : Nat) : Int)) (t := 23) (by show ((i : Nat) : Int) < ((ls.length : Nat) : Int); omega) ⟨by omega, by omega⟩ ⟨by omega, by omega⟩ (by decide) (by decide)) ?_
    refine jr_1 jm_164 (show jw_cd cd_164 23 = some (.aload_n 1) by decide +kernel) rfl ?_
    refine jr_1 jm_164 (show jw_cd cd_164 24 = some (.getfield 65) by decide +kernel) (js_getf (cl_old hl ⟨by omega, oG⟩) (jbg (by omega)) (show jw_fld 9 65 13 = some 2 by decide +kernel) rfl) ?_
    refine jr_1 jm_164 (show jw_cd cd_164 27 = some (.iload_n 2) by decide +kernel) rfl ?_
    refine jr_c jm_164 (show jw_cd cd_164 28 = some (.invokevirtual 40) by decide +kernel) (ccv (n := 1) (m2 := 160) (ci := 12) (a := la) (bs := [.int (Int32.ofInt (((i : Nat) : Int)))]) (r := []) (js_cls (cl_old hl ⟨by omega, oL⟩) (jbg (by omega))) (show jw_find jw_cvT 9 40 = some (1, [(12, 160)]) by decide +kernel) (by decide) rfl rfl rfl) jm_160 ⟨Nat.le_of_ble_eq_true rfl, by decide⟩ cg ?_
    refine jr_1 jm_164 (show jw_cd cd_164 31 = some (.checkcast 68) by decide +kernel) (cck (js_cls (cl_old hl ⟨by omega, oS⟩) (jbg (by omega))) (show jw_ct 9 68 14 = some true by decide +kernel)) ?_
    refine jr_1 jm_164 (F2 := (36, [some (.ref 10), some (.ref sg), some (.int (Int32.ofInt (((i : Nat) : Int)))), some (.int (Int32.ofInt (((en : Nat) : Int)))), some (.ref v0), some (.ref sp), none, none, none, none, none, none], [], (cl_mk h κ))) (show jw_cd cd_164 34 = some (.astore 5) by decide +kernel) rfl ?_
    refine jr_1 jm_164 (show jw_cd cd_164 36 = some (.aload 5) by decide +kernel) rfl ?_
    refine jr_1 jm_164 (show jw_cd cd_164 38 = some (.getfield 70) by decide +kernel) (js_getf (cl_old hl ⟨by omega, oS⟩) (jbg (by omega)) (show jw_fld 9 70 14 = some 0 by decide +kernel) rfl) ?_
    refine jr_1 jm_164 (show jw_cd cd_164 41 = some (.ifCond .ne 27) by decide +kernel) (mz_t (q := .ne) (a := ckd e.1) (t := 68) (by show ¬ (ckd e.1 = 0); omega) ⟨by omega, by omega⟩ (by decide) (by decide)) ?_
    refine jr_1 jm_164 (show jw_cd cd_164 68 = some (.aload 5) by decide +kernel) rfl ?_
    refine jr_1 jm_164 (show jw_cd cd_164 70 = some (.getfield 70) by decide +kernel) (js_getf (cl_old hl ⟨by omega, oS⟩) (jbg (by omega)) (show jw_fld 9 70 14 = some 0 by decide +kernel) rfl) ?_
    refine jr_1 jm_164 (show jw_cd cd_164 73 = some (.iconst 1) by decide +kernel) rfl ?_
    refine jr_1 jm_164 (show jw_cd cd_164 74 = some (.if_icmp .ne 27) by decide +kernel) (mb_t (q := .ne) (a := ckd e.1) (b := 1) (t := 101) (by show ¬ (ckd e.1 = 1); omega) ⟨by omega, by omega⟩ ⟨by omega, by omega⟩ (by decide) (by decide)) ?_
    refine jr_1 jm_164 (show jw_cd cd_164 101 = some (.aload 4) by decide +kernel) rfl ?_
    refine jr_1 jm_164 (show jw_cd cd_164 103 = some (.getfield 91) by decide +kernel) (js_getf hA (jbg (by omega)) (show jw_fld 9 91 5 = some 0 by decide +kernel) rfl) ?_
    refine jr_1 jm_164 (show jw_cd cd_164 106 = some (.aload 5) by decide +kernel) rfl ?_
    refine jr_c jm_164 (show jw_cd cd_164 108 = some (.invokevirtual 92) by decide +kernel) (ccv (n := 0) (m2 := 167) (ci := 14) (a := sp) (bs := []) (r := [.int (Int32.ofInt ((dv x).1.1))]) (js_cls (cl_old hl ⟨by omega, oS⟩) (jbg (by omega))) (show jw_find jw_cvT 9 92 = some (0, [(14, 167)]) by decide +kernel) (by decide) rfl rfl rfl) jm_167 ⟨Nat.le_of_ble_eq_true rfl, by decide⟩ c1 ?_
    refine jr_1 jm_164 (show jw_cd cd_164 111 = some (.if_icmp .eq 8) by decide +kernel) (mb_f (q := .eq) (a := (dv x).1.1) (b := tk) (by show ¬ ((dv x).1.1 = tk); omega) ⟨by omega, by omega⟩ ⟨by omega, by omega⟩ (by decide)) ?_
    refine jr_1 jm_164 (show jw_cd cd_164 114 = some (.aload_n 0) by decide +kernel) rfl ?_
    refine jr_1 jm_164 (show jw_cd cd_164 115 = some (.getfield 9) by decide +kernel) (cgr_10_0 (show jw_fld 9 9 6 = some 0 by decide +kernel)) ?_
    exact jr_v jm_164 (show jw_cd cd_164 118 = some (.areturn) by decide +kernel) rfl
  have hfit : (dv x).1.1 = tk := Classical.byContradiction hfit
  cases x with
  | none =>
    have : (0 : Int) = tk := hfit
    omega
  | some v =>
    have hv5 : v.1.1 = tk := hfit
    have hfp : fitP e v.1 = true := by unfold fitP; rw [decide_eq_true_eq, ← htk]; exact hv5
    have hvN : vN h X v0 v.1 v.2 := by
      rcases hv with q | q
      · have := q.2.1
        omega
      · exact q
    have vok2 : vok v := vok'
    have vcn2 : cnV v := vcn
    have vdp2 : fdp v.2 ≤ 8 := vdp
    have vct2 : fct v.2 ≤ 390 := vct
    have vfz := fsz_le v.2
    have ecl : clO (e :: l) (some v) = (if e.1 = 6 then 5 else 1) + ((selS e v.2).map (clN l)).sum := by
      show clN (e :: l) v = _
      unfold clN
      rw [if_neg hn1, if_pos hfp]
    have ers : rsO (e :: l) (some v) = (if e.1 = 6 then 6 + 5 * fct v.2 else fsz v.2) + ((selS e v.2).map (rsN l)).sum := by
      show rsN (e :: l) v = _
      unfold rsN
      rw [if_neg hn1, if_pos hfp]
    have eev : (some v).bind (evS (e :: l)) = some (lsV ((selS e v.2).filterMap fun w => nnO (evS l w))) := by
      show evS (e :: l) v = _
      rw [evS_prj hn1]
      unfold prS
      rw [if_pos hfp]
    obtain ⟨L, eL⟩ : ∃ L, L = rwL e v.2 := ⟨_, rfl⟩
    have hLp := rwL_p (e := e) vok2.2 vcn2.2 vdp2 vct2
    rw [← eL] at hLp
    have esel := itS_sel (F := v.2) heO hn1 (by rw [← eL]; omega)
    rw [← eL] at esel
    rw [ecl] at hlen
    -- the row
    have hrow : ∃ (h1 : jx_H) (rw : Nat), (∀ res, jx_r (jz β) jw_M (D' + 14) 164 (141, [some (.ref 10), some (.ref sg), some (.int (Int32.ofInt (((i : Nat) : Int)))), some (.int (Int32.ofInt (((en : Nat) : Int)))), some (.ref v0), some (.ref sp), some (.ref rw), none, none, none, none, none], [], (cl_mk h1 κ)) res → jx_r (jz β) jw_M (D' + 14) 164 (0, [some (.ref 10), some (.ref sg), some (.int (Int32.ofInt (((i : Nat) : Int)))), some (.int (Int32.ofInt (((en : Nat) : Int)))), some (.ref v0), none, none, none, none, none, none, none], [], (cl_mk h κ)) res) ∧ rowR h1 X rw L ∧ (∀ (c : Nat) (y : jx_C), h[c]? = some y → h1[c]? = some y) ∧ (h.length ≤ h1.length ∧ h1.length ≤ h.length + (if e.1 = 6 then 12 else 0)) ∧ cvol h1 ≤ cvol h + (if e.1 = 6 then 6 + 4 * fct v.2 else 0) := by
      by_cases h6 : e.1 = 6
      · have hk5 := ck3.2.mpr h6
        obtain ⟨h1, c2, hf1, f1, f2, f3⟩ := jc_flat (β := β) (d := D' + 11) (κ := κ) hl rfl (by omega) hx hvN vok2.2 vct2
        rw [if_pos h6, if_pos h6]
        obtain ⟨rw, erw⟩ : ∃ rw, rw = h.length := ⟨_, rfl⟩
        rw [← erw] at c2 hf1
        refine ⟨h1, rw, fun res kk => ?_, ?_, f1, f2, by omega⟩
        · refine jr_1 jm_164 (show jw_cd cd_164 0 = some (.iload_n 2) by decide +kernel) rfl ?_
          refine jr_1 jm_164 (show jw_cd cd_164 1 = some (.ifCond .lt 19) by decide +kernel) (mz_f (q := .lt) (a := ((i : Nat) : Int)) (by show ¬ (((i : Nat) : Int) < 0); omega) ⟨by omega, by omega⟩ (by decide)) ?_
          refine jr_1 jm_164 (show jw_cd cd_164 4 = some (.iload_n 2) by decide +kernel) rfl ?_
          refine jr_1 jm_164 (show jw_cd cd_164 5 = some (.iload_n 3) by decide +kernel) rfl ?_
          refine jr_1 jm_164 (show jw_cd cd_164 6 = some (.if_icmp .ge 14) by decide +kernel) (mb_f (q := .ge) (a := ((i : Nat) : Int)) (b := ((en : Nat) : Int)) (by show ¬ (((en : Nat) : Int) ≤ ((i : Nat) : Int)); omega) ⟨by omega, by omega⟩ ⟨by omega, by omega⟩ (by decide)) ?_
          refine jr_1 jm_164 (show jw_cd cd_164 9 = some (.iload_n 2) by decide +kernel) rfl ?_
          refine jr_1 jm_164 (show jw_cd cd_164 10 = some (.aload_n 1) by decide +kernel) rfl ?_
          refine jr_1 jm_164 (show jw_cd cd_164 11 = some (.getfield 65) by decide +kernel) (js_getf (cl_old hl ⟨by omega, oG⟩) (jbg (by omega)) (show jw_fld 9 65 13 = some 2 by decide +kernel) rfl) ?_
          refine jr_c jm_164 (show jw_cd cd_164 14 = some (.invokevirtual 34) by decide +kernel) (ccv (n := 0) (m2 := 159) (ci := 12) (a := la) (bs := []) (r := [.int (Int32.ofInt (((i : Nat) : Int)))]) (js_cls (cl_old hl ⟨by omega, oL⟩) (jbg (by omega))) (show jw_find jw_cvT 9 34 = some (0, [(12, 159)]) by decide +kernel) (by decide) rfl rfl rfl) jm_159 ⟨Nat.le_of_ble_eq_true rfl, by decide⟩ cz ?_
          refine jr_1 jm_164 (show jw_cd cd_164 17 = some (.if_icmp .lt 6) by decide +kernel) (mb_t (q := .lt) (a := ((i : Nat) : Int)) (b := ((ls.length : Nat) : Int)) (t := 23) (by show ((i : Nat) : Int) < ((ls.length : Nat) : Int); omega) ⟨by omega, by omega⟩ ⟨by omega, by omega⟩ (by decide) (by decide)) ?_
          refine jr_1 jm_164 (show jw_cd cd_164 23 = some (.aload_n 1) by decide +kernel) rfl ?_
          refine jr_1 jm_164 (show jw_cd cd_164 24 = some (.getfield 65) by decide +kernel) (js_getf (cl_old hl ⟨by omega, oG⟩) (jbg (by omega)) (show jw_fld 9 65 13 = some 2 by decide +kernel) rfl) ?_
          refine jr_1 jm_164 (show jw_cd cd_164 27 = some (.iload_n 2) by decide +kernel) rfl ?_
          refine jr_c jm_164 (show jw_cd cd_164 28 = some (.invokevirtual 40) by decide +kernel) (ccv (n := 1) (m2 := 160) (ci := 12) (a := la) (bs := [.int (Int32.ofInt (((i : Nat) : Int)))]) (r := []) (js_cls (cl_old hl ⟨by omega, oL⟩) (jbg (by omega))) (show jw_find jw_cvT 9 40 = some (1, [(12, 160)]) by decide +kernel) (by decide) rfl rfl rfl) jm_160 ⟨Nat.le_of_ble_eq_true rfl, by decide⟩ cg ?_
          refine jr_1 jm_164 (show jw_cd cd_164 31 = some (.checkcast 68) by decide +kernel) (cck (js_cls (cl_old hl ⟨by omega, oS⟩) (jbg (by omega))) (show jw_ct 9 68 14 = some true by decide +kernel)) ?_
          refine jr_1 jm_164 (F2 := (36, [some (.ref 10), some (.ref sg), some (.int (Int32.ofInt (((i : Nat) : Int)))), some (.int (Int32.ofInt (((en : Nat) : Int)))), some (.ref v0), some (.ref sp), none, none, none, none, none, none], [], (cl_mk h κ))) (show jw_cd cd_164 34 = some (.astore 5) by decide +kernel) rfl ?_
          refine jr_1 jm_164 (show jw_cd cd_164 36 = some (.aload 5) by decide +kernel) rfl ?_
          refine jr_1 jm_164 (show jw_cd cd_164 38 = some (.getfield 70) by decide +kernel) (js_getf (cl_old hl ⟨by omega, oS⟩) (jbg (by omega)) (show jw_fld 9 70 14 = some 0 by decide +kernel) rfl) ?_
          refine jr_1 jm_164 (show jw_cd cd_164 41 = some (.ifCond .ne 27) by decide +kernel) (mz_t (q := .ne) (a := ckd e.1) (t := 68) (by show ¬ (ckd e.1 = 0); omega) ⟨by omega, by omega⟩ (by decide) (by decide)) ?_
          refine jr_1 jm_164 (show jw_cd cd_164 68 = some (.aload 5) by decide +kernel) rfl ?_
          refine jr_1 jm_164 (show jw_cd cd_164 70 = some (.getfield 70) by decide +kernel) (js_getf (cl_old hl ⟨by omega, oS⟩) (jbg (by omega)) (show jw_fld 9 70 14 = some 0 by decide +kernel) rfl) ?_
          refine jr_1 jm_164 (show jw_cd cd_164 73 = some (.iconst 1) by decide +kernel) rfl ?_
          refine jr_1 jm_164 (show jw_cd cd_164 74 = some (.if_icmp .ne 27) by decide +kernel) (mb_t (q := .ne) (a := ckd e.1) (b := 1) (t := 101) (by show ¬ (ckd e.1 = 1); omega) ⟨by omega, by omega⟩ ⟨by omega, by omega⟩ (by decide) (by decide)) ?_
          refine jr_1 jm_164 (show jw_cd cd_164 101 = some (.aload 4) by decide +kernel) rfl ?_
          refine jr_1 jm_164 (show jw_cd cd_164 103 = some (.getfield 91) by decide +kernel) (js_getf hA (jbg (by omega)) (show jw_fld 9 91 5 = some 0 by decide +kernel) rfl) ?_
          refine jr_1 jm_164 (show jw_cd cd_164 106 = some (.aload 5) by decide +kernel) rfl ?_
          refine jr_c jm_164 (show jw_cd cd_164 108 = some (.invokevirtual 92) by decide +kernel) (ccv (n := 0) (m2 := 167) (ci := 14) (a := sp) (bs := []) (r := [.int (Int32.ofInt ((dv (some v)).1.1))]) (js_cls (cl_old hl ⟨by omega, oS⟩) (jbg (by omega))) (show jw_find jw_cvT 9 92 = some (0, [(14, 167)]) by decide +kernel) (by decide) rfl rfl rfl) jm_167 ⟨Nat.le_of_ble_eq_true rfl, by decide⟩ c1 ?_
          refine jr_1 jm_164 (show jw_cd cd_164 111 = some (.if_icmp .eq 8) by decide +kernel) (mb_t (q := .eq) (a := (dv (some v)).1.1) (b := tk) (t := 119) (by show (dv (some v)).1.1 = tk; omega) ⟨by omega, by omega⟩ ⟨by omega, by omega⟩ (by decide) (by decide)) ?_
          refine jr_1 jm_164 (show jw_cd cd_164 119 = some (.aload 5) by decide +kernel) rfl ?_
          refine jr_1 jm_164 (show jw_cd cd_164 121 = some (.getfield 70) by decide +kernel) (js_getf (cl_old hl ⟨by omega, oS⟩) (jbg (by omega)) (show jw_fld 9 70 14 = some 0 by decide +kernel) rfl) ?_
          refine jr_1 jm_164 (show jw_cd cd_164 124 = some (.iconst 5) by decide +kernel) rfl ?_
          refine jr_1 jm_164 (show jw_cd cd_164 125 = some (.if_icmp .ne 12) by decide +kernel) (mb_f (q := .ne) (a := ckd e.1) (b := 5) (by show ¬ (¬ (ckd e.1 = 5)); omega) ⟨by omega, by omega⟩ ⟨by omega, by omega⟩ (by decide)) ?_
          refine jr_1 jm_164 (show jw_cd cd_164 128 = some (.aload_n 0) by decide +kernel) rfl ?_
          refine jr_1 jm_164 (show jw_cd cd_164 129 = some (.aload 4) by decide +kernel) rfl ?_
          refine jr_c jm_164 (show jw_cd cd_164 131 = some (.invokevirtual 95) by decide +kernel) (ccv (n := 1) (m2 := 168) (ci := 6) (a := 10) (bs := [.ref v0]) (r := []) (js_cls cl_c10 (by decide)) (show jw_find jw_cvT 9 95 = some (1, [(6, 168)]) by decide +kernel) (by decide) rfl rfl rfl) jm_168 ⟨Nat.le_of_ble_eq_true rfl, by decide⟩ c2 ?_
          refine jr_1 jm_164 (show jw_cd cd_164 134 = some (.goto 5) by decide +kernel) (ju_go (t := 139) (by decide)) ?_
          refine jr_1 jm_164 (F2 := (141, [some (.ref 10), some (.ref sg), some (.int (Int32.ofInt (((i : Nat) : Int)))), some (.int (Int32.ofInt (((en : Nat) : Int)))), some (.ref v0), some (.ref sp), some (.ref rw), none, none, none, none, none], [], (cl_mk h1 κ))) (show jw_cd cd_164 139 = some (.astore 6) by decide +kernel) rfl ?_
          exact kk
        · have eL6 : L = flatS v.2 := by rw [eL]; exact if_pos h6
          rw [← eL6] at hf1
          obtain ⟨z0, rt, rka, ria, rkc, ric, rf, rg, z1, z2, oR, -, -, oI, ⟨y1, y2⟩, -, hF⟩ := hf1
          rw [fl_sz] at oR y1
          refine ⟨z0, _, _, rt, rka, ria, ric, rf, z2, oR, oI, ⟨y1, y2⟩, fun q y hy => ?_⟩
          obtain ⟨it, j1, j2⟩ := vF_nth _ _ rf rg 0 q _ hF (sib_flk L q y hy)
          rw [Nat.zero_add] at j1
          exact ⟨it, j1, j2⟩
      · have hk5 : ¬ ckd e.1 = 5 := fun z => h6 (ck3.2.mp z)
        rw [if_neg h6, if_neg h6]
        refine ⟨h, v0, fun res kk => ?_, ?_, fun c y hy => hy, ⟨Nat.le_refl _, Nat.le_refl _⟩, Nat.le_refl _⟩
        · refine jr_1 jm_164 (show jw_cd cd_164 0 = some (.iload_n 2) by decide +kernel) rfl ?_
          refine jr_1 jm_164 (show jw_cd cd_164 1 = some (.ifCond .lt 19) by decide +kernel) (mz_f (q := .lt) (a := ((i : Nat) : Int)) (by show ¬ (((i : Nat) : Int) < 0); omega) ⟨by omega, by omega⟩ (by decide)) ?_
          refine jr_1 jm_164 (show jw_cd cd_164 4 = some (.iload_n 2) by decide +kernel) rfl ?_
          refine jr_1 jm_164 (show jw_cd cd_164 5 = some (.iload_n 3) by decide +kernel) rfl ?_
          refine jr_1 jm_164 (show jw_cd cd_164 6 = some (.if_icmp .ge 14) by decide +kernel) (mb_f (q := .ge) (a := ((i : Nat) : Int)) (b := ((en : Nat) : Int)) (by show ¬ (((en : Nat) : Int) ≤ ((i : Nat) : Int)); omega) ⟨by omega, by omega⟩ ⟨by omega, by omega⟩ (by decide)) ?_
          refine jr_1 jm_164 (show jw_cd cd_164 9 = some (.iload_n 2) by decide +kernel) rfl ?_
          refine jr_1 jm_164 (show jw_cd cd_164 10 = some (.aload_n 1) by decide +kernel) rfl ?_
          refine jr_1 jm_164 (show jw_cd cd_164 11 = some (.getfield 65) by decide +kernel) (js_getf (cl_old hl ⟨by omega, oG⟩) (jbg (by omega)) (show jw_fld 9 65 13 = some 2 by decide +kernel) rfl) ?_
          refine jr_c jm_164 (show jw_cd cd_164 14 = some (.invokevirtual 34) by decide +kernel) (ccv (n := 0) (m2 := 159) (ci := 12) (a := la) (bs := []) (r := [.int (Int32.ofInt (((i : Nat) : Int)))]) (js_cls (cl_old hl ⟨by omega, oL⟩) (jbg (by omega))) (show jw_find jw_cvT 9 34 = some (0, [(12, 159)]) by decide +kernel) (by decide) rfl rfl rfl) jm_159 ⟨Nat.le_of_ble_eq_true rfl, by decide⟩ cz ?_
          refine jr_1 jm_164 (show jw_cd cd_164 17 = some (.if_icmp .lt 6) by decide +kernel) (mb_t (q := .lt) (a := ((i : Nat) : Int)) (b := ((ls.length : Nat) : Int)) (t := 23) (by show ((i : Nat) : Int) < ((ls.length : Nat) : Int); omega) ⟨by omega, by omega⟩ ⟨by omega, by omega⟩ (by decide) (by decide)) ?_
          refine jr_1 jm_164 (show jw_cd cd_164 23 = some (.aload_n 1) by decide +kernel) rfl ?_
          refine jr_1 jm_164 (show jw_cd cd_164 24 = some (.getfield 65) by decide +kernel) (js_getf (cl_old hl ⟨by omega, oG⟩) (jbg (by omega)) (show jw_fld 9 65 13 = some 2 by decide +kernel) rfl) ?_
          refine jr_1 jm_164 (show jw_cd cd_164 27 = some (.iload_n 2) by decide +kernel) rfl ?_
          refine jr_c jm_164 (show jw_cd cd_164 28 = some (.invokevirtual 40) by decide +kernel) (ccv (n := 1) (m2 := 160) (ci := 12) (a := la) (bs := [.int (Int32.ofInt (((i : Nat) : Int)))]) (r := []) (js_cls (cl_old hl ⟨by omega, oL⟩) (jbg (by omega))) (show jw_find jw_cvT 9 40 = some (1, [(12, 160)]) by decide +kernel) (by decide) rfl rfl rfl) jm_160 ⟨Nat.le_of_ble_eq_true rfl, by decide⟩ cg ?_
          refine jr_1 jm_164 (show jw_cd cd_164 31 = some (.checkcast 68) by decide +kernel) (cck (js_cls (cl_old hl ⟨by omega, oS⟩) (jbg (by omega))) (show jw_ct 9 68 14 = some true by decide +kernel)) ?_
          refine jr_1 jm_164 (F2 := (36, [some (.ref 10), some (.ref sg), some (.int (Int32.ofInt (((i : Nat) : Int)))), some (.int (Int32.ofInt (((en : Nat) : Int)))), some (.ref v0), some (.ref sp), none, none, none, none, none, none], [], (cl_mk h κ))) (show jw_cd cd_164 34 = some (.astore 5) by decide +kernel) rfl ?_
          refine jr_1 jm_164 (show jw_cd cd_164 36 = some (.aload 5) by decide +kernel) rfl ?_
          refine jr_1 jm_164 (show jw_cd cd_164 38 = some (.getfield 70) by decide +kernel) (js_getf (cl_old hl ⟨by omega, oS⟩) (jbg (by omega)) (show jw_fld 9 70 14 = some 0 by decide +kernel) rfl) ?_
          refine jr_1 jm_164 (show jw_cd cd_164 41 = some (.ifCond .ne 27) by decide +kernel) (mz_t (q := .ne) (a := ckd e.1) (t := 68) (by show ¬ (ckd e.1 = 0); omega) ⟨by omega, by omega⟩ (by decide) (by decide)) ?_
          refine jr_1 jm_164 (show jw_cd cd_164 68 = some (.aload 5) by decide +kernel) rfl ?_
          refine jr_1 jm_164 (show jw_cd cd_164 70 = some (.getfield 70) by decide +kernel) (js_getf (cl_old hl ⟨by omega, oS⟩) (jbg (by omega)) (show jw_fld 9 70 14 = some 0 by decide +kernel) rfl) ?_
          refine jr_1 jm_164 (show jw_cd cd_164 73 = some (.iconst 1) by decide +kernel) rfl ?_
          refine jr_1 jm_164 (show jw_cd cd_164 74 = some (.if_icmp .ne 27) by decide +kernel) (mb_t (q := .ne) (a := ckd e.1) (b := 1) (t := 101) (by show ¬ (ckd e.1 = 1); omega) ⟨by omega, by omega⟩ ⟨by omega, by omega⟩ (by decide) (by decide)) ?_
          refine jr_1 jm_164 (show jw_cd cd_164 101 = some (.aload 4) by decide +kernel) rfl ?_
          refine jr_1 jm_164 (show jw_cd cd_164 103 = some (.getfield 91) by decide +kernel) (js_getf hA (jbg (by omega)) (show jw_fld 9 91 5 = some 0 by decide +kernel) rfl) ?_
          refine jr_1 jm_164 (show jw_cd cd_164 106 = some (.aload 5) by decide +kernel) rfl ?_
          refine jr_c jm_164 (show jw_cd cd_164 108 = some (.invokevirtual 92) by decide +kernel) (ccv (n := 0) (m2 := 167) (ci := 14) (a := sp) (bs := []) (r := [.int (Int32.ofInt ((dv (some v)).1.1))]) (js_cls (cl_old hl ⟨by omega, oS⟩) (jbg (by omega))) (show jw_find jw_cvT 9 92 = some (0, [(14, 167)]) by decide +kernel) (by decide) rfl rfl rfl) jm_167 ⟨Nat.le_of_ble_eq_true rfl, by decide⟩ c1 ?_
          refine jr_1 jm_164 (show jw_cd cd_164 111 = some (.if_icmp .eq 8) by decide +kernel) (mb_t (q := .eq) (a := (dv (some v)).1.1) (b := tk) (t := 119) (by show (dv (some v)).1.1 = tk; omega) ⟨by omega, by omega⟩ ⟨by omega, by omega⟩ (by decide) (by decide)) ?_
          refine jr_1 jm_164 (show jw_cd cd_164 119 = some (.aload 5) by decide +kernel) rfl ?_
          refine jr_1 jm_164 (show jw_cd cd_164 121 = some (.getfield 70) by decide +kernel) (js_getf (cl_old hl ⟨by omega, oS⟩) (jbg (by omega)) (show jw_fld 9 70 14 = some 0 by decide +kernel) rfl) ?_
          refine jr_1 jm_164 (show jw_cd cd_164 124 = some (.iconst 5) by decide +kernel) rfl ?_
          refine jr_1 jm_164 (show jw_cd cd_164 125 = some (.if_icmp .ne 12) by decide +kernel) (mb_t (q := .ne) (a := ckd e.1) (b := 5) (t := 137) (by show ¬ (ckd e.1 = 5); omega) ⟨by omega, by omega⟩ ⟨by omega, by omega⟩ (by decide) (by decide)) ?_
          refine jr_1 jm_164 (show jw_cd cd_164 137 = some (.aload 4) by decide +kernel) rfl ?_
          refine jr_1 jm_164 (F2 := (141, [some (.ref 10), some (.ref sg), some (.int (Int32.ofInt (((i : Nat) : Int)))), some (.int (Int32.ofInt (((en : Nat) : Int)))), some (.ref v0), some (.ref sp), some (.ref v0), none, none, none, none, none], [], (cl_mk h κ))) (show jw_cd cd_164 139 = some (.astore 6) by decide +kernel) rfl ?_
          exact kk
        · have eL6 : L = sib v.2 := by rw [eL]; exact if_neg h6
          obtain ⟨z0, rt, rka, ria, rkc, ric, rf, rg, z1, z2, oR, -, -, oI, ⟨y1, y2⟩, -, hF⟩ := hvN
          rw [eL6]
          refine ⟨z0, _, _, rt, rka, ria, ric, rf, z2, by rw [sib_sz]; exact oR, oI, ⟨by rw [sib_sz]; exact y1, y2⟩, fun q y hy => ?_⟩
          obtain ⟨it, j1, j2⟩ := vF_nth _ _ rf rg 0 q _ hF hy
          rw [Nat.zero_add] at j1
          exact ⟨it, j1, j2⟩
    obtain ⟨h1, rw, k1, hrow, f1, f2, f3⟩ := hrow
    have hl1 : 50 ≤ h1.length := by omega
    have h6b : (if e.1 = 6 then 12 else 0) + 3 ≤ 3 * (if e.1 = 6 then 5 else 1) := by split <;> decide
    have h6c : (if e.1 = 6 then 6 + 4 * fct v.2 else 0) + L.length ≤ (if e.1 = 6 then 6 + 5 * fct v.2 else fsz v.2) := by
      by_cases h6 : e.1 = 6
      · rw [if_pos h6, if_pos h6]
        have hw := flat_w (sib v.2)
        rw [wS_sib] at hw
        have := wS_len (flatS v.2)
        have e1 : L = flatS v.2 := by rw [eL]; exact if_pos h6
        rw [e1]
        have hw : wS (flatS v.2) ≤ fct v.2 := hw
        omega
      · rw [if_neg h6, if_neg h6]
        have e1 : L = sib v.2 := by rw [eL]; exact if_neg h6
        rw [e1, sib_sz]
        omega
    have h6d : 1 ≤ (if e.1 = 6 then 5 else 1) := by split <;> decide
    -- the list
    obtain ⟨N1, eN1⟩ : ∃ N1, N1 = h1.length := ⟨_, rfl⟩
    have c3 := jc_ofL (β := β) (d := D' + 12) (κ := κ) (rm := ((L.length : Nat) : Int)) hl1 eN1.symm (by omega) ⟨by omega, by omega⟩
    have hx1 : ∀ c, N1 ≤ c → ¬ X c := fun c hc => hx c (by omega)
    have hbn := bL_new (rm := L.length) (kd := 5) hl1 eN1.symm hx1 (by decide) (by omega)
    rw [Int.toNat_natCast] at c3
    obtain ⟨h2, eh2⟩ : ∃ h2, h2 = h1 ++ [.inr (5, [.int (Int32.ofInt (5)), .int (Int32.ofInt (0)), .ref (jx_big + 9), .ref (N1 + 1), .ref (N1 + 2), .int (Int32.ofInt (0))]), .inl (4, 0, fun _ => .null), .inl (4, L.length, fun _ => .null)] := ⟨_, rfl⟩
    rw [← eh2] at c3 hbn
    have hN2 : h2.length = N1 + 3 := by rw [eh2, List.length_append, ← eN1]; rfl
    have hl2 : 50 ≤ h2.length := by omega
    have q2 : ∀ (c : Nat) (y : jx_C), h1[c]? = some y → h2[c]? = some y := fun c y hy => by rw [eh2, List.getElem?_append_left (List.getElem?_eq_some_iff.mp hy).1]; exact hy
    have v2 : cvol h2 = cvol h1 + (6 + L.length) := by
      rw [eh2, cvol_app]
      show cvol h1 + (6 + (0 + (L.length + 0))) = _
      omega
    have fr2 : hQ h1 h2 X (bX X N1 (N1 + 1) (N1 + 2)) := fun c y z hy => ⟨⟨z.1, z.2.1, by have := (List.getElem?_eq_some_iff.mp hy).1; exact bX_i z.2.2 (by omega) (by omega) (by omega)⟩, q2 c y hy⟩
    have fr02 : hQ h h2 X (bX X N1 (N1 + 1) (N1 + 2)) := fun c y z hy => fr2 c y z (f1 c y hy)
    have oS1 := f1 _ _ oS
    have oS2 := q2 _ _ oS1
    obtain ⟨zr, r1, r2, rt, rka, ria, ric, rf, zi, oR, oI, hric, hel⟩ := id hrow
    have oR2 := q2 _ _ oR
    have c4 := jc_bound (β := β) (d := D' + 13) (κ := κ) (n := L.length) (x := cfr e) hl2 ⟨zs1, zs2⟩ oS2 rg1 (by omega) ⟨by omega, by omega⟩
    have c5 := jc_bound (β := β) (d := D' + 13) (κ := κ) (n := L.length) (x := cen e) hl2 ⟨zs1, zs2⟩ oS2 rg2 (by omega) ⟨by omega, by omega⟩
    obtain ⟨pl, epl⟩ : ∃ pl, pl = bdS (cby e) (cfr e) L.length := ⟨_, rfl⟩
    obtain ⟨b, eb⟩ : ∃ b, b = bdS (cby e) (cen e) L.length := ⟨_, rfl⟩
    have c4 : jx_r (jz β) jw_M (D' + 13) 169 (0, [some (.ref sp), some (.int (Int32.ofInt (cfr e))), some (.int (Int32.ofInt (((L.length : Nat) : Int)))), none, none, none], [], (cl_mk h2 κ)) (cl_mk h2 (κ), .inl (some (.int (Int32.ofInt (pl))))) := by rw [epl]; exact c4
    have c5 : jx_r (jz β) jw_M (D' + 13) 169 (0, [some (.ref sp), some (.int (Int32.ofInt (cen e))), some (.int (Int32.ofInt (((L.length : Nat) : Int)))), none, none, none], [], (cl_mk h2 κ)) (cl_mk h2 (κ), .inl (some (.int (Int32.ofInt (b))))) := by rw [eb]; exact c5
    have bp := bdS_r (x := cfr e) (n := L.length) rg3.2.2
    have bb := bdS_r (x := cen e) (n := L.length) rg3.2.2
    rw [← epl] at bp
    rw [← eb] at bb
    have bpa := bp.1
    have bpb := bp.2
    have bba := bb.1
    have bbb := bb.2
    have eits : itS e L = (slI (cby e) b L.length pl).filterMap fun k => L[k.toNat]? := by unfold itS; rw [← epl, ← eb]
    rw [eits] at esel
    rw [esel] at hlen ecl ers eev
    obtain ⟨h3, fr3, r3, s1, s2, s3, s4⟩ := jc_foL (β := β) hP (D := D' + 13) (κ := κ) (X := X) (N0 := N1) (v0 := v0) (b := b) hle2 (by omega) hen (by omega) heO hn1 (by omega) hLp.2 ⟨fun z => (bba z).2, fun z => (bbb z).1, by by_cases z : 0 < cby e; have := bba z; omega; have := bbb (by omega); omega, by by_cases z : 0 < cby e; have := bba z; omega; have := bbb (by omega); omega⟩ rg3 L.length 0 pl [] h2 _ none (by omega) (Nat.zero_le _) (fun z => (bpa z).1) (fun z => (bpb z).2) ⟨by by_cases z : 0 < cby e; have := bpa z; omega; have := bpb (by omega); omega, by by_cases z : 0 < cby e; have := bpa z; omega; have := bpb (by omega); omega⟩ hl2 hbn (stgR_fr fr02 hst) (spR_fr fr02 hsp) (rowR_fr fr2 hrow) (by omega)
    rw [List.nil_append] at s1
    have hfin := bL_done (s := []) (by omega) s1
    rw [ecl, ers, eev]
    refine ⟨h3, N1, k1 _ (jc_fo141 hl1 hl2 ⟨zs1, zs2⟩ ⟨zr.1, zr.2.1⟩ oR oS1 oR2 oS2 c3 c4 c5 r3), Or.inr hfin, fun c y hy => s2 c y (by have := (List.getElem?_eq_some_iff.mp (f1 c y hy)).1; omega) (q2 c y (f1 c y hy)), ⟨by omega, by omega⟩, by omega⟩
theorem flP_all {β : Bool} : ∀ l : List sE, flP β l
  | [] => flP_nil
  | _ :: l => flP_cons (flP_all l)
