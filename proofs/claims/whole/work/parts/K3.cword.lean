/-! ===== the class: readWord (printed by program: gen115.py) ===== -/
theorem jm_131 : jw_M 131 = some (7, 4, (none, false), jw_cd cd_131, fun _ _ => none) := rfl
section CW
variable {β : Bool} {cd : Nat → Option Instr} {own pc : Nat} {rt : Option FieldType × Bool} {lo : jx_L} {st : List Value} {H : jx_H}
theorem cac_ne_nr {b t : Nat} {off : Int} (h0 : 0 ≤ (pc : Int) + off) (ht : jx_to pc off = some t) : jx_do (jz β) cd own pc rt (.if_acmp .ne off) lo (.ref b :: .null :: st) H = some (.inl (t, lo, st, H)) := by
  simp only [jx_do, jx_holdA, jx_br, jx_go, ht, if_pos h0]
  rfl
theorem jx_neW {a b : Nat} (ha : a < 9) (hb : b < 9) : jx_ne (jz β) (jx_big + a) (jx_big + b) = true := by
  have e : jx_no (jz β) = (9, 29, 55) := rfl
  unfold jx_ne
  rw [e]
  have h1 : decide (jx_big + a < jx_big + 9) = true := decide_eq_true (by omega)
  have h2 : decide (jx_big + b < jx_big + 9) = true := decide_eq_true (by omega)
  simp only [h1, h2, Bool.and_self, Bool.true_or, Bool.or_true]
end CW
theorem sKey_no {T : Int → Int} {n p : Int} (h : ¬ pL (tH T n p) = true) : sKey T n p = .inl p := by
  have e0 : spn pL T n 8 p = [] := spn_f h
  unfold sKey
  rw [if_pos (by rw [e0]; rfl)]
theorem ck_c {T : Int → Int} {n p : Int} (ht : tOK T n) (h0 : 0 ≤ p) : pL (tC T n p) = pL (tH T n p) := by
  unfold pL
  have := tC_is (a := 97) (b := 122) ht h0 (by decide)
  exact decide_eq_decide.mpr this
theorem jc_word {β : Bool} {d : Nat} {h : jx_H} {κ : mS} (hl : 50 ≤ h.length) {N : Nat} (hN : h.length = N) (hb32 : N < 2700000000) {X Y : Nat → Prop} (hx : ∀ c, N ≤ c → ¬ X c) {T : Int → Int} {n p q : Int} {sa la t : Nat} {s : List Int} (hXs : ¬ X sa) (hsa : 50 ≤ sa ∧ sa < 4000000000) (oA : h[sa]? = some (.inr (13, [.null, .ref (jx_big + 9), .ref la]))) (ht : strR h Y t s) (hs : tx s) (hP : cP κ T n (q + 1)) (hp : 0 ≤ p ∧ p ≤ n) (hsc : 0 ≤ κ 7 0 ∧ κ 7 0 ≤ 16) : ∃ (κ' : mS) (h' : jx_H) (w : Value) (t' : Nat), jx_r (jz β) jw_M (d + 7) 131 (0, [some (.ref 6), some (.ref sa), some (.ref t), some (.int (Int32.ofInt (p)))], [], (cl_mk h κ)) (cl_mk h' (κ'), .inl none) ∧ h'[sa]? = some (.inr (13, [w, .ref t', .ref la])) ∧ (w = .null ∨ ∃ r, w = .ref r) ∧ (∀ (c : Nat) (y : jx_C), ¬ c = sa → h[c]? = some y → h'[c]? = some y) ∧ (N ≤ h'.length ∧ h'.length ≤ N + 2) ∧ cvol h' ≤ cvol h + 11 ∧ mEq [4, 5, 7, 8, 15] κ κ' ∧ (0 ≤ κ' 7 0 ∧ κ' 7 0 ≤ 16) ∧ (∀ st q2, sWrd T n s p q = .inr (st, q2) → ((0 ≤ st.1 ∧ st.1 ≤ 8) ∧ w = .ref (jx_big + st.1.toNat) ∧ strR h' X t' st.2.1) ∧ cP κ' T n q2) ∧ (∀ e, sWrd T n s p q = .inl e → cE κ' T n e) := by
  have hT := hP.1.2.2
  have hq0 := hP.2.2.2.1
  have hqn := hP.2.2.2.2
  have hn160 := hT.2.1
  have hal := (List.getElem?_eq_some_iff.mp oA).1
  have c1 := jc_spell (β := β) (d := d + 4) (κ := κ) hl ht hs
  have wr := wordS_r s
  by_cases hw : wordS s = -1
  · have e0 : sWrd T n s p q = .inl p := if_pos hw
    rw [hw] at c1
    have c1 : jx_r (jz β) jw_M (d + 6) 132 (0, [some (.ref t), none], [], (cl_mk h κ)) (cl_mk h κ, .inl (some .null)) := c1
    obtain ⟨h1, eh1⟩ : ∃ h1, h1 = List.set h sa (.inr (13, [.null, .ref (jx_big + 9), .ref la])) := ⟨_, rfl⟩
    have hN1 : h1.length = N := by rw [eh1, List.length_set]; exact hN
    have hl1 : 50 ≤ h1.length := by omega
    have oA1 : h1[sa]? = some (.inr (13, [.null, .ref (jx_big + 9), .ref la])) := by rw [eh1]; exact js_set_eq oA
    have v1 : cvol h1 = cvol h := by rw [eh1]; exact cvol_sO oA
    have f1 : ∀ (c : Nat) (y : jx_C), ¬ c = sa → h[c]? = some y → h1[c]? = some y := fun c y hc hy => by rw [eh1]; exact (js_set_ne (fun e => hc e.symm)).trans hy
    have hE : cE (su κ 5 0 p) T n p := cP_w hP hp.1 (by omega)
    refine ⟨su κ 5 0 p, h1, .null, jx_big + 9, ?_, oA1, Or.inl rfl, f1, ⟨by omega, by omega⟩, by omega, mEq_su (mEq_refl _ _) (by decide), by rw [su_nf (by decide)]; exact hsc, fun st q2 hh => (by rw [e0] at hh; cases hh), fun e hh => by rw [e0] at hh; injection hh with hh; rw [← hh]; exact hE⟩
    refine jr_1 jm_131 (show jw_cd cd_131 0 = some (.aload_n 1) by decide +kernel) rfl ?_
    refine jr_1 jm_131 (show jw_cd cd_131 1 = some (.aload_n 2) by decide +kernel) rfl ?_
    refine jr_c jm_131 (show jw_cd cd_131 2 = some (.invokestatic 96) by decide +kernel) (mc_s (n := 1) (m2 := 132) (bs := [.ref t]) (r := [.ref sa]) (by decide) (show jw_find jw_csT 7 96 = some (132, 1) by decide +kernel) rfl rfl rfl) jm_132 ⟨Nat.le_of_ble_eq_true rfl, by decide⟩ c1 ?_
    refine jr_1 jm_131 (F2 := (8, [some (.ref 6), some (.ref sa), some (.ref t), some (.int (Int32.ofInt (p)))], [], (cl_mk (List.set h sa (.inr (13, [.null, .ref (jx_big + 9), .ref la]))) κ))) (show jw_cd cd_131 5 = some (.putfield 60) by decide +kernel) (cpf (cl_old hl ⟨by omega, oA⟩) (jbg (by omega)) (show jw_fld 7 60 13 = some 0 by decide +kernel) (show jw_ft 13 0 = some (.object "PickDesk$Word") from rfl) (show jw_fm 7 13 0 = some false by decide +kernel) rfl rfl (cl_set (by omega) (by omega))) ?_
    rw [← eh1]
    refine jr_1 jm_131 (show jw_cd cd_131 8 = some (.aload_n 1) by decide +kernel) rfl ?_
    refine jr_1 jm_131 (show jw_cd cd_131 9 = some (.getfield 60) by decide +kernel) (js_getf (cl_old hl1 ⟨by omega, oA1⟩) (jbg (by omega)) (show jw_fld 7 60 13 = some 0 by decide +kernel) rfl) ?_
    refine jr_1 jm_131 (show jw_cd cd_131 12 = some (.ifnonnull 11) by decide +kernel) (cnn_n (by decide)) ?_
    refine jr_1 jm_131 (show jw_cd cd_131 15 = some (.aload_n 0) by decide +kernel) rfl ?_
    refine jr_1 jm_131 (show jw_cd cd_131 16 = some (.getfield 9) by decide +kernel) (cgr_6_0 (show jw_fld 7 9 4 = some 0 by decide +kernel)) ?_
    refine jr_1 jm_131 (show jw_cd cd_131 19 = some (.iload_n 3) by decide +kernel) rfl ?_
    refine jr_c jm_131 (show jw_cd cd_131 20 = some (.invokevirtual 70) by decide +kernel) (ccv (n := 1) (m2 := 62) (ci := 1) (a := 1) (bs := [.int (Int32.ofInt (p))]) (r := []) (js_cls cl_c1 (by decide)) (show jw_find jw_cvT 7 70 = some (1, [(1, 62)]) by decide +kernel) (by decide) rfl rfl rfl) jm_62 ⟨Nat.le_of_ble_eq_true rfl, by decide⟩ (jc_wrongAt hl1 hP) ?_
    refine jr_1 jm_131 (show jw_cd cd_131 23 = some (.aload_n 1) by decide +kernel) rfl ?_
    refine jr_1 jm_131 (show jw_cd cd_131 24 = some (.getfield 60) by decide +kernel) (js_getf (cl_old hl1 ⟨by omega, oA1⟩) (jbg (by omega)) (show jw_fld 7 60 13 = some 0 by decide +kernel) rfl) ?_
    refine jr_1 jm_131 (show jw_cd cd_131 27 = some (.getstatic 102) by decide +kernel) (cgs (v := .ref (jx_big + 3)) (by decide) rfl) ?_
    refine jr_1 jm_131 (show jw_cd cd_131 30 = some (.if_acmp .ne 26) by decide +kernel) (cac_ne_nr (t := 56) (by decide) (by decide)) ?_
    refine jr_1 jm_131 (show jw_cd cd_131 56 = some (.aload_n 0) by decide +kernel) rfl ?_
    refine jr_1 jm_131 (show jw_cd cd_131 57 = some (.getfield 9) by decide +kernel) (cgr_6_0 (show jw_fld 7 9 4 = some 0 by decide +kernel)) ?_
    refine jr_1 jm_131 (show jw_cd cd_131 60 = some (.bipush 41) by decide +kernel) (mt_bi (by decide)) ?_
    refine jr_c jm_131 (show jw_cd cd_131 62 = some (.invokevirtual 56) by decide +kernel) (ccv (n := 1) (m2 := 96) (ci := 1) (a := 1) (bs := [.int (Int32.ofInt (41))]) (r := []) (js_cls cl_c1 (by decide)) (show jw_find jw_cvT 7 56 = some (1, [(1, 96)]) by decide +kernel) (by decide) rfl rfl rfl) jm_96 ⟨Nat.le_of_ble_eq_true rfl, by decide⟩ (jc_mustW hl1 hE.2.1 (by decide)) ?_
    exact jr_v jm_131 (show jw_cd cd_131 65 = some (.return_) by decide +kernel) rfl
  have hw9 : (wordS s).toNat < 9 := by omega
  rw [show wrdV (wordS s) = .ref (jx_big + (wordS s).toNat) from if_neg hw] at c1
  by_cases h3 : wordS s = 3
  · rw [h3] at c1
    have c1 : jx_r (jz β) jw_M (d + 6) 132 (0, [some (.ref t), none], [], (cl_mk h κ)) (cl_mk h (κ), .inl (some (.ref (jx_big + 3)))) := c1
    obtain ⟨h1, eh1⟩ : ∃ h1, h1 = List.set h sa (.inr (13, [.ref (jx_big + 3), .ref (jx_big + 9), .ref la])) := ⟨_, rfl⟩
    have hN1 : h1.length = N := by rw [eh1, List.length_set]; exact hN
    have hl1 : 50 ≤ h1.length := by omega
    have oA1 : h1[sa]? = some (.inr (13, [.ref (jx_big + 3), .ref (jx_big + 9), .ref la])) := by rw [eh1]; exact js_set_eq oA
    have v1 : cvol h1 = cvol h := by rw [eh1]; exact cvol_sO oA
    have f1 : ∀ (c : Nat) (y : jx_C), ¬ c = sa → h[c]? = some y → h1[c]? = some y := fun c y hc hy => by rw [eh1]; exact (js_set_ne (fun e => hc e.symm)).trans hy
    have c3 := jc_here (β := β) (d := d + 6) hl1 hP
    obtain ⟨v, ev⟩ : ∃ v, v = tC T n (q + 1) := ⟨_, rfl⟩
    have hr0 : 0 ≤ v ∧ v ≤ 126 := by rw [ev]; exact (tC_H hT hq0).2.2
    rw [← ev] at c3
    by_cases h41 : tH T n (q + 1) = 41
    · have hv : v = 41 := ev.trans ((tC_eq hP.1.2.2 hP.2.2.2.1 (by decide)).mpr h41)
      have hqn2 : q + 1 < n := (tH_r hT hq0).2.2.2 (by rw [h41]; decide)
      have e0 : sWrd T n s p q = .inr ((3, [], []), q + 1 + 1) := (if_neg hw).trans ((if_neg (by rw [h41]; decide)).trans ((if_pos h41).trans (by rw [h3])))
      refine ⟨su κ 4 0 (q + 1 + 1), h1, .ref (jx_big + 3), jx_big + 9, ?_, oA1, Or.inr ⟨_, rfl⟩, f1, ⟨by omega, by omega⟩, by omega, mEq_su (mEq_refl _ _) (by decide), by rw [su_nf (by decide)]; exact hsc, fun st q2 hh => by rw [e0] at hh; injection hh with hh; injection hh with z1 z2; rw [← z1, ← z2]; exact ⟨⟨by decide, rfl, emp_str⟩, cP_mv hP (by omega) (by omega)⟩, fun e hh => (by rw [e0] at hh; cases hh)⟩
      refine jr_1 jm_131 (show jw_cd cd_131 0 = some (.aload_n 1) by decide +kernel) rfl ?_
      refine jr_1 jm_131 (show jw_cd cd_131 1 = some (.aload_n 2) by decide +kernel) rfl ?_
      refine jr_c jm_131 (show jw_cd cd_131 2 = some (.invokestatic 96) by decide +kernel) (mc_s (n := 1) (m2 := 132) (bs := [.ref t]) (r := [.ref sa]) (by decide) (show jw_find jw_csT 7 96 = some (132, 1) by decide +kernel) rfl rfl rfl) jm_132 ⟨Nat.le_of_ble_eq_true rfl, by decide⟩ c1 ?_
      refine jr_1 jm_131 (F2 := (8, [some (.ref 6), some (.ref sa), some (.ref t), some (.int (Int32.ofInt (p)))], [], (cl_mk (List.set h sa (.inr (13, [.ref (jx_big + 3), .ref (jx_big + 9), .ref la]))) κ))) (show jw_cd cd_131 5 = some (.putfield 60) by decide +kernel) (cpf (cl_old hl ⟨by omega, oA⟩) (jbg (by omega)) (show jw_fld 7 60 13 = some 0 by decide +kernel) (show jw_ft 13 0 = some (.object "PickDesk$Word") from rfl) (show jw_fm 7 13 0 = some false by decide +kernel) rfl rfl (cl_set (by omega) (by omega))) ?_
      rw [← eh1]
      refine jr_1 jm_131 (show jw_cd cd_131 8 = some (.aload_n 1) by decide +kernel) rfl ?_
      refine jr_1 jm_131 (show jw_cd cd_131 9 = some (.getfield 60) by decide +kernel) (js_getf (cl_old hl1 ⟨by omega, oA1⟩) (jbg (by omega)) (show jw_fld 7 60 13 = some 0 by decide +kernel) rfl) ?_
      refine jr_1 jm_131 (show jw_cd cd_131 12 = some (.ifnonnull 11) by decide +kernel) (cnn_r (t := 23) (by decide) (by decide)) ?_
      refine jr_1 jm_131 (show jw_cd cd_131 23 = some (.aload_n 1) by decide +kernel) rfl ?_
      refine jr_1 jm_131 (show jw_cd cd_131 24 = some (.getfield 60) by decide +kernel) (js_getf (cl_old hl1 ⟨by omega, oA1⟩) (jbg (by omega)) (show jw_fld 7 60 13 = some 0 by decide +kernel) rfl) ?_
      refine jr_1 jm_131 (show jw_cd cd_131 27 = some (.getstatic 102) by decide +kernel) (cgs (v := .ref (jx_big + 3)) (by decide) rfl) ?_
      refine jr_1 jm_131 (show jw_cd cd_131 30 = some (.if_acmp .ne 26) by decide +kernel) (cac_ne_f (by decide)) ?_
      refine jr_1 jm_131 (show jw_cd cd_131 33 = some (.aload_n 0) by decide +kernel) rfl ?_
      refine jr_1 jm_131 (show jw_cd cd_131 34 = some (.getfield 9) by decide +kernel) (cgr_6_0 (show jw_fld 7 9 4 = some 0 by decide +kernel)) ?_
      refine jr_c jm_131 (show jw_cd cd_131 37 = some (.invokevirtual 45) by decide +kernel) (ccv (n := 0) (m2 := 58) (ci := 1) (a := 1) (bs := []) (r := []) (js_cls cl_c1 (by decide)) (show jw_find jw_cvT 7 45 = some (0, [(1, 58)]) by decide +kernel) (by decide) rfl rfl rfl) jm_58 ⟨Nat.le_of_ble_eq_true rfl, by decide⟩ c3 ?_
      refine jr_1 jm_131 (show jw_cd cd_131 40 = some (.bipush 41) by decide +kernel) (mt_bi (by decide)) ?_
      refine jr_1 jm_131 (show jw_cd cd_131 42 = some (.if_icmp .eq 14) by decide +kernel) (mb_t (q := .eq) (a := v) (b := 41) (t := 56) (by show v = 41; exact hv) ⟨by omega, by omega⟩ ⟨by omega, by omega⟩ (by decide) (by decide)) ?_
      refine jr_1 jm_131 (show jw_cd cd_131 56 = some (.aload_n 0) by decide +kernel) rfl ?_
      refine jr_1 jm_131 (show jw_cd cd_131 57 = some (.getfield 9) by decide +kernel) (cgr_6_0 (show jw_fld 7 9 4 = some 0 by decide +kernel)) ?_
      refine jr_1 jm_131 (show jw_cd cd_131 60 = some (.bipush 41) by decide +kernel) (mt_bi (by decide)) ?_
      refine jr_c jm_131 (show jw_cd cd_131 62 = some (.invokevirtual 56) by decide +kernel) (ccv (n := 1) (m2 := 96) (ci := 1) (a := 1) (bs := [.int (Int32.ofInt (41))]) (r := []) (js_cls cl_c1 (by decide)) (show jw_find jw_cvT 7 56 = some (1, [(1, 96)]) by decide +kernel) (by decide) rfl rfl rfl) jm_96 ⟨Nat.le_of_ble_eq_true rfl, by decide⟩ (jc_mustT hl1 hP ((tC_eq hP.1.2.2 hP.2.2.2.1 (by decide)).mpr h41) (by decide)) ?_
      exact jr_v jm_131 (show jw_cd cd_131 65 = some (.return_) by decide +kernel) rfl
    have hv : ¬ v = 41 := fun e => h41 ((tC_eq hT hq0 (by decide)).mp (ev.symm.trans e))
    obtain ⟨κ1, L, s', c4, y1, y2, y3, yt, y4, y5, y6, y7⟩ := jc_readKey (β := β) (d := d) (x := fun c => X c ∨ c = sa) hl1 hN1 (by omega) (fun c hc z => by rcases z with z | z; exact hx c (by omega) z; omega) hP hsc
    obtain ⟨h2, eh2⟩ : ∃ h2, h2 = List.set (h1 ++ L) sa (.inr (13, [.ref (jx_big + 3), .ref N, .ref la])) := ⟨_, rfl⟩
    have oA10 : (h1 ++ L)[sa]? = some (.inr (13, [.ref (jx_big + 3), .ref (jx_big + 9), .ref la])) := by rw [List.getElem?_append_left (by omega)]; exact oA1
    have hN2 : h2.length = N + 2 := by rw [eh2, List.length_set, List.length_append, hN1, y1]
    have hl2 : 50 ≤ h2.length := by omega
    have oA2 : h2[sa]? = some (.inr (13, [.ref (jx_big + 3), .ref N, .ref la])) := by rw [eh2]; exact js_set_eq oA10
    have v2 : cvol h2 ≤ cvol h + 11 := by rw [eh2, cvol_sO oA10, cvol_app, v1]; omega
    have f2 : ∀ (c : Nat) (y : jx_C), ¬ c = sa → h[c]? = some y → h2[c]? = some y := fun c y hc hy => by
      have := f1 c y hc hy
      rw [eh2, js_set_ne (fun e => hc e.symm), List.getElem?_append_left (List.getElem?_eq_some_iff.mp this).1]
      exact this
    have hS2 : strR h2 X N s' := strR_fr (fun c y z hy => ⟨⟨z.1, z.2.1, fun w => z.2.2 (Or.inl w)⟩, by rw [eh2, js_set_ne (fun e => z.2.2 (Or.inr e.symm))]; exact hy⟩) y3
    have hpl : sWrd T n s p q = (match sKey T n (q + 1) with
      | .inl e => .inl e
      | .inr (r, q2) => if tH T n q2 = 41 then .inr ((wordS s, r, []), q2 + 1) else .inl q2) := by
      refine (if_neg hw).trans ?_
      by_cases hl1 : pL (tH T n (q + 1)) = true
      · rw [if_pos hl1, if_neg (fun z => z h3)]
        cases sKey T n (q + 1) with
        | inl e => rfl
        | inr x => rfl
      · rw [if_neg hl1, if_neg h41, sKey_no hl1]
    cases hk : sKey T n (q + 1) with
    | inl e' =>
      have e0 : sWrd T n s p q = .inl e' := by rw [hpl, hk]
      have hE := y7 e' hk
      obtain ⟨κ2, ek2⟩ : ∃ κ2, κ2 = κ1 := ⟨_, rfl⟩
      have rm : jx_r (jz β) jw_M (d + 6) 96 (0, [some (.ref 1), some (.int (Int32.ofInt (41)))], [], (cl_mk h2 κ1)) (cl_mk h2 (κ2), .inl none) := by rw [ek2]; exact jc_mustW hl2 hE.2.1 (by decide)
      refine ⟨κ2, h2, .ref (jx_big + 3), N, ?_, oA2, Or.inr ⟨_, rfl⟩, f2, ⟨by omega, by omega⟩, by omega, by rw [ek2]; exact y4, by rw [ek2]; exact y5, fun st q2 hh => (by rw [e0] at hh; cases hh), fun e hh => by rw [e0] at hh; injection hh with hh; rw [← hh]; exact (by rw [ek2]; exact hE)⟩
      refine jr_1 jm_131 (show jw_cd cd_131 0 = some (.aload_n 1) by decide +kernel) rfl ?_
      refine jr_1 jm_131 (show jw_cd cd_131 1 = some (.aload_n 2) by decide +kernel) rfl ?_
      refine jr_c jm_131 (show jw_cd cd_131 2 = some (.invokestatic 96) by decide +kernel) (mc_s (n := 1) (m2 := 132) (bs := [.ref t]) (r := [.ref sa]) (by decide) (show jw_find jw_csT 7 96 = some (132, 1) by decide +kernel) rfl rfl rfl) jm_132 ⟨Nat.le_of_ble_eq_true rfl, by decide⟩ c1 ?_
      refine jr_1 jm_131 (F2 := (8, [some (.ref 6), some (.ref sa), some (.ref t), some (.int (Int32.ofInt (p)))], [], (cl_mk (List.set h sa (.inr (13, [.ref (jx_big + 3), .ref (jx_big + 9), .ref la]))) κ))) (show jw_cd cd_131 5 = some (.putfield 60) by decide +kernel) (cpf (cl_old hl ⟨by omega, oA⟩) (jbg (by omega)) (show jw_fld 7 60 13 = some 0 by decide +kernel) (show jw_ft 13 0 = some (.object "PickDesk$Word") from rfl) (show jw_fm 7 13 0 = some false by decide +kernel) rfl rfl (cl_set (by omega) (by omega))) ?_
      rw [← eh1]
      refine jr_1 jm_131 (show jw_cd cd_131 8 = some (.aload_n 1) by decide +kernel) rfl ?_
      refine jr_1 jm_131 (show jw_cd cd_131 9 = some (.getfield 60) by decide +kernel) (js_getf (cl_old hl1 ⟨by omega, oA1⟩) (jbg (by omega)) (show jw_fld 7 60 13 = some 0 by decide +kernel) rfl) ?_
      refine jr_1 jm_131 (show jw_cd cd_131 12 = some (.ifnonnull 11) by decide +kernel) (cnn_r (t := 23) (by decide) (by decide)) ?_
      refine jr_1 jm_131 (show jw_cd cd_131 23 = some (.aload_n 1) by decide +kernel) rfl ?_
      refine jr_1 jm_131 (show jw_cd cd_131 24 = some (.getfield 60) by decide +kernel) (js_getf (cl_old hl1 ⟨by omega, oA1⟩) (jbg (by omega)) (show jw_fld 7 60 13 = some 0 by decide +kernel) rfl) ?_
      refine jr_1 jm_131 (show jw_cd cd_131 27 = some (.getstatic 102) by decide +kernel) (cgs (v := .ref (jx_big + 3)) (by decide) rfl) ?_
      refine jr_1 jm_131 (show jw_cd cd_131 30 = some (.if_acmp .ne 26) by decide +kernel) (cac_ne_f (by decide)) ?_
      refine jr_1 jm_131 (show jw_cd cd_131 33 = some (.aload_n 0) by decide +kernel) rfl ?_
      refine jr_1 jm_131 (show jw_cd cd_131 34 = some (.getfield 9) by decide +kernel) (cgr_6_0 (show jw_fld 7 9 4 = some 0 by decide +kernel)) ?_
      refine jr_c jm_131 (show jw_cd cd_131 37 = some (.invokevirtual 45) by decide +kernel) (ccv (n := 0) (m2 := 58) (ci := 1) (a := 1) (bs := []) (r := []) (js_cls cl_c1 (by decide)) (show jw_find jw_cvT 7 45 = some (0, [(1, 58)]) by decide +kernel) (by decide) rfl rfl rfl) jm_58 ⟨Nat.le_of_ble_eq_true rfl, by decide⟩ c3 ?_
      refine jr_1 jm_131 (show jw_cd cd_131 40 = some (.bipush 41) by decide +kernel) (mt_bi (by decide)) ?_
      refine jr_1 jm_131 (show jw_cd cd_131 42 = some (.if_icmp .eq 14) by decide +kernel) (mb_f (q := .eq) (a := v) (b := 41) (by show ¬ (v = 41); exact hv) ⟨by omega, by omega⟩ ⟨by omega, by omega⟩ (by decide)) ?_
      refine jr_1 jm_131 (show jw_cd cd_131 45 = some (.aload_n 1) by decide +kernel) rfl ?_
      refine jr_1 jm_131 (show jw_cd cd_131 46 = some (.aload_n 0) by decide +kernel) rfl ?_
      refine jr_1 jm_131 (show jw_cd cd_131 47 = some (.getfield 9) by decide +kernel) (cgr_6_0 (show jw_fld 7 9 4 = some 0 by decide +kernel)) ?_
      refine jr_c jm_131 (show jw_cd cd_131 50 = some (.invokevirtual 77) by decide +kernel) (ccv (n := 0) (m2 := 98) (ci := 1) (a := 1) (bs := []) (r := [.ref sa]) (js_cls cl_c1 (by decide)) (show jw_find jw_cvT 7 77 = some (0, [(1, 98)]) by decide +kernel) (by decide) rfl rfl rfl) jm_98 ⟨Nat.le_of_ble_eq_true rfl, by decide⟩ c4 ?_
      refine jr_1 jm_131 (F2 := (56, [some (.ref 6), some (.ref sa), some (.ref t), some (.int (Int32.ofInt (p)))], [], (cl_mk (List.set (h1 ++ L) sa (.inr (13, [.ref (jx_big + 3), .ref N, .ref la]))) κ1))) (show jw_cd cd_131 53 = some (.putfield 105) by decide +kernel) (cpf (ap_old hl1 ⟨by omega, oA1⟩) (jbg (by omega)) (show jw_fld 7 105 13 = some 1 by decide +kernel) (show jw_ft 13 1 = some (.object "java/lang/String") from rfl) (show jw_fm 7 13 1 = some false by decide +kernel) rfl rfl (cl_set (by rw [List.length_append]; omega) (by omega))) ?_
      rw [← eh2]
      refine jr_1 jm_131 (show jw_cd cd_131 56 = some (.aload_n 0) by decide +kernel) rfl ?_
      refine jr_1 jm_131 (show jw_cd cd_131 57 = some (.getfield 9) by decide +kernel) (cgr_6_0 (show jw_fld 7 9 4 = some 0 by decide +kernel)) ?_
      refine jr_1 jm_131 (show jw_cd cd_131 60 = some (.bipush 41) by decide +kernel) (mt_bi (by decide)) ?_
      refine jr_c jm_131 (show jw_cd cd_131 62 = some (.invokevirtual 56) by decide +kernel) (ccv (n := 1) (m2 := 96) (ci := 1) (a := 1) (bs := [.int (Int32.ofInt (41))]) (r := []) (js_cls cl_c1 (by decide)) (show jw_find jw_cvT 7 56 = some (1, [(1, 96)]) by decide +kernel) (by decide) rfl rfl rfl) jm_96 ⟨Nat.le_of_ble_eq_true rfl, by decide⟩ rm ?_
      exact jr_v jm_131 (show jw_cd cd_131 65 = some (.return_) by decide +kernel) rfl
    | inr x =>
      obtain ⟨r, q2⟩ := x
      obtain ⟨x1, hP2⟩ := y6 r q2 hk
      rw [x1] at hS2
      have hq20 := hP2.2.2.2.1
      have hq2n := hP2.2.2.2.2
      by_cases h41b : tH T n q2 = 41
      · have hqn2 : q2 < n := (tH_r hT hq20).2.2.2 (by rw [h41b]; decide)
        have e0 : sWrd T n s p q = .inr ((3, r, []), q2 + 1) := by rw [hpl, hk]; exact (if_pos h41b).trans (by rw [h3])
        obtain ⟨κ2, ek2⟩ : ∃ κ2, κ2 = su κ1 4 0 (q2 + 1) := ⟨_, rfl⟩
        have rm : jx_r (jz β) jw_M (d + 6) 96 (0, [some (.ref 1), some (.int (Int32.ofInt (41)))], [], (cl_mk h2 κ1)) (cl_mk h2 (κ2), .inl none) := by rw [ek2]; exact jc_mustT hl2 hP2 ((tC_eq hP2.1.2.2 hP2.2.2.2.1 (by decide)).mpr h41b) (by decide)
        refine ⟨κ2, h2, .ref (jx_big + 3), N, ?_, oA2, Or.inr ⟨_, rfl⟩, f2, ⟨by omega, by omega⟩, by omega, by rw [ek2]; exact mEq_su y4 (by decide), by rw [ek2, su_nf (by decide)]; exact y5, fun st q2 hh => by rw [e0] at hh; injection hh with hh; injection hh with z1 z2; rw [← z1, ← z2]; exact ⟨⟨⟨by show (0 : Int) ≤ 3; decide, by show (3 : Int) ≤ 8; decide⟩, rfl, hS2⟩, by rw [ek2]; exact cP_mv hP2 (by omega) (by omega)⟩, fun e hh => (by rw [e0] at hh; cases hh)⟩
        refine jr_1 jm_131 (show jw_cd cd_131 0 = some (.aload_n 1) by decide +kernel) rfl ?_
        refine jr_1 jm_131 (show jw_cd cd_131 1 = some (.aload_n 2) by decide +kernel) rfl ?_
        refine jr_c jm_131 (show jw_cd cd_131 2 = some (.invokestatic 96) by decide +kernel) (mc_s (n := 1) (m2 := 132) (bs := [.ref t]) (r := [.ref sa]) (by decide) (show jw_find jw_csT 7 96 = some (132, 1) by decide +kernel) rfl rfl rfl) jm_132 ⟨Nat.le_of_ble_eq_true rfl, by decide⟩ c1 ?_
        refine jr_1 jm_131 (F2 := (8, [some (.ref 6), some (.ref sa), some (.ref t), some (.int (Int32.ofInt (p)))], [], (cl_mk (List.set h sa (.inr (13, [.ref (jx_big + 3), .ref (jx_big + 9), .ref la]))) κ))) (show jw_cd cd_131 5 = some (.putfield 60) by decide +kernel) (cpf (cl_old hl ⟨by omega, oA⟩) (jbg (by omega)) (show jw_fld 7 60 13 = some 0 by decide +kernel) (show jw_ft 13 0 = some (.object "PickDesk$Word") from rfl) (show jw_fm 7 13 0 = some false by decide +kernel) rfl rfl (cl_set (by omega) (by omega))) ?_
        rw [← eh1]
        refine jr_1 jm_131 (show jw_cd cd_131 8 = some (.aload_n 1) by decide +kernel) rfl ?_
        refine jr_1 jm_131 (show jw_cd cd_131 9 = some (.getfield 60) by decide +kernel) (js_getf (cl_old hl1 ⟨by omega, oA1⟩) (jbg (by omega)) (show jw_fld 7 60 13 = some 0 by decide +kernel) rfl) ?_
        refine jr_1 jm_131 (show jw_cd cd_131 12 = some (.ifnonnull 11) by decide +kernel) (cnn_r (t := 23) (by decide) (by decide)) ?_
        refine jr_1 jm_131 (show jw_cd cd_131 23 = some (.aload_n 1) by decide +kernel) rfl ?_
        refine jr_1 jm_131 (show jw_cd cd_131 24 = some (.getfield 60) by decide +kernel) (js_getf (cl_old hl1 ⟨by omega, oA1⟩) (jbg (by omega)) (show jw_fld 7 60 13 = some 0 by decide +kernel) rfl) ?_
        refine jr_1 jm_131 (show jw_cd cd_131 27 = some (.getstatic 102) by decide +kernel) (cgs (v := .ref (jx_big + 3)) (by decide) rfl) ?_
        refine jr_1 jm_131 (show jw_cd cd_131 30 = some (.if_acmp .ne 26) by decide +kernel) (cac_ne_f (by decide)) ?_
        refine jr_1 jm_131 (show jw_cd cd_131 33 = some (.aload_n 0) by decide +kernel) rfl ?_
        refine jr_1 jm_131 (show jw_cd cd_131 34 = some (.getfield 9) by decide +kernel) (cgr_6_0 (show jw_fld 7 9 4 = some 0 by decide +kernel)) ?_
        refine jr_c jm_131 (show jw_cd cd_131 37 = some (.invokevirtual 45) by decide +kernel) (ccv (n := 0) (m2 := 58) (ci := 1) (a := 1) (bs := []) (r := []) (js_cls cl_c1 (by decide)) (show jw_find jw_cvT 7 45 = some (0, [(1, 58)]) by decide +kernel) (by decide) rfl rfl rfl) jm_58 ⟨Nat.le_of_ble_eq_true rfl, by decide⟩ c3 ?_
        refine jr_1 jm_131 (show jw_cd cd_131 40 = some (.bipush 41) by decide +kernel) (mt_bi (by decide)) ?_
        refine jr_1 jm_131 (show jw_cd cd_131 42 = some (.if_icmp .eq 14) by decide +kernel) (mb_f (q := .eq) (a := v) (b := 41) (by show ¬ (v = 41); exact hv) ⟨by omega, by omega⟩ ⟨by omega, by omega⟩ (by decide)) ?_
        refine jr_1 jm_131 (show jw_cd cd_131 45 = some (.aload_n 1) by decide +kernel) rfl ?_
        refine jr_1 jm_131 (show jw_cd cd_131 46 = some (.aload_n 0) by decide +kernel) rfl ?_
        refine jr_1 jm_131 (show jw_cd cd_131 47 = some (.getfield 9) by decide +kernel) (cgr_6_0 (show jw_fld 7 9 4 = some 0 by decide +kernel)) ?_
        refine jr_c jm_131 (show jw_cd cd_131 50 = some (.invokevirtual 77) by decide +kernel) (ccv (n := 0) (m2 := 98) (ci := 1) (a := 1) (bs := []) (r := [.ref sa]) (js_cls cl_c1 (by decide)) (show jw_find jw_cvT 7 77 = some (0, [(1, 98)]) by decide +kernel) (by decide) rfl rfl rfl) jm_98 ⟨Nat.le_of_ble_eq_true rfl, by decide⟩ c4 ?_
        refine jr_1 jm_131 (F2 := (56, [some (.ref 6), some (.ref sa), some (.ref t), some (.int (Int32.ofInt (p)))], [], (cl_mk (List.set (h1 ++ L) sa (.inr (13, [.ref (jx_big + 3), .ref N, .ref la]))) κ1))) (show jw_cd cd_131 53 = some (.putfield 105) by decide +kernel) (cpf (ap_old hl1 ⟨by omega, oA1⟩) (jbg (by omega)) (show jw_fld 7 105 13 = some 1 by decide +kernel) (show jw_ft 13 1 = some (.object "java/lang/String") from rfl) (show jw_fm 7 13 1 = some false by decide +kernel) rfl rfl (cl_set (by rw [List.length_append]; omega) (by omega))) ?_
        rw [← eh2]
        refine jr_1 jm_131 (show jw_cd cd_131 56 = some (.aload_n 0) by decide +kernel) rfl ?_
        refine jr_1 jm_131 (show jw_cd cd_131 57 = some (.getfield 9) by decide +kernel) (cgr_6_0 (show jw_fld 7 9 4 = some 0 by decide +kernel)) ?_
        refine jr_1 jm_131 (show jw_cd cd_131 60 = some (.bipush 41) by decide +kernel) (mt_bi (by decide)) ?_
        refine jr_c jm_131 (show jw_cd cd_131 62 = some (.invokevirtual 56) by decide +kernel) (ccv (n := 1) (m2 := 96) (ci := 1) (a := 1) (bs := [.int (Int32.ofInt (41))]) (r := []) (js_cls cl_c1 (by decide)) (show jw_find jw_cvT 7 56 = some (1, [(1, 96)]) by decide +kernel) (by decide) rfl rfl rfl) jm_96 ⟨Nat.le_of_ble_eq_true rfl, by decide⟩ rm ?_
        exact jr_v jm_131 (show jw_cd cd_131 65 = some (.return_) by decide +kernel) rfl
      · have e0 : sWrd T n s p q = .inl q2 := by rw [hpl, hk]; exact if_neg h41b
        obtain ⟨κ2, ek2⟩ : ∃ κ2, κ2 = su κ1 5 0 q2 := ⟨_, rfl⟩
        have rm : jx_r (jz β) jw_M (d + 6) 96 (0, [some (.ref 1), some (.int (Int32.ofInt (41)))], [], (cl_mk h2 κ1)) (cl_mk h2 (κ2), .inl none) := by rw [ek2]; exact jc_mustF hl2 hP2 (fun e => h41b ((tC_eq hP2.1.2.2 hP2.2.2.2.1 (by decide)).mp e)) (by decide)
        refine ⟨κ2, h2, .ref (jx_big + 3), N, ?_, oA2, Or.inr ⟨_, rfl⟩, f2, ⟨by omega, by omega⟩, by omega, by rw [ek2]; exact mEq_su y4 (by decide), by rw [ek2, su_nf (by decide)]; exact y5, fun st q2 hh => (by rw [e0] at hh; cases hh), fun e hh => by rw [e0] at hh; injection hh with hh; rw [← hh]; exact (by rw [ek2]; exact cP_w hP2 (by omega) (by omega))⟩
        refine jr_1 jm_131 (show jw_cd cd_131 0 = some (.aload_n 1) by decide +kernel) rfl ?_
        refine jr_1 jm_131 (show jw_cd cd_131 1 = some (.aload_n 2) by decide +kernel) rfl ?_
        refine jr_c jm_131 (show jw_cd cd_131 2 = some (.invokestatic 96) by decide +kernel) (mc_s (n := 1) (m2 := 132) (bs := [.ref t]) (r := [.ref sa]) (by decide) (show jw_find jw_csT 7 96 = some (132, 1) by decide +kernel) rfl rfl rfl) jm_132 ⟨Nat.le_of_ble_eq_true rfl, by decide⟩ c1 ?_
        refine jr_1 jm_131 (F2 := (8, [some (.ref 6), some (.ref sa), some (.ref t), some (.int (Int32.ofInt (p)))], [], (cl_mk (List.set h sa (.inr (13, [.ref (jx_big + 3), .ref (jx_big + 9), .ref la]))) κ))) (show jw_cd cd_131 5 = some (.putfield 60) by decide +kernel) (cpf (cl_old hl ⟨by omega, oA⟩) (jbg (by omega)) (show jw_fld 7 60 13 = some 0 by decide +kernel) (show jw_ft 13 0 = some (.object "PickDesk$Word") from rfl) (show jw_fm 7 13 0 = some false by decide +kernel) rfl rfl (cl_set (by omega) (by omega))) ?_
        rw [← eh1]
        refine jr_1 jm_131 (show jw_cd cd_131 8 = some (.aload_n 1) by decide +kernel) rfl ?_
        refine jr_1 jm_131 (show jw_cd cd_131 9 = some (.getfield 60) by decide +kernel) (js_getf (cl_old hl1 ⟨by omega, oA1⟩) (jbg (by omega)) (show jw_fld 7 60 13 = some 0 by decide +kernel) rfl) ?_
        refine jr_1 jm_131 (show jw_cd cd_131 12 = some (.ifnonnull 11) by decide +kernel) (cnn_r (t := 23) (by decide) (by decide)) ?_
        refine jr_1 jm_131 (show jw_cd cd_131 23 = some (.aload_n 1) by decide +kernel) rfl ?_
        refine jr_1 jm_131 (show jw_cd cd_131 24 = some (.getfield 60) by decide +kernel) (js_getf (cl_old hl1 ⟨by omega, oA1⟩) (jbg (by omega)) (show jw_fld 7 60 13 = some 0 by decide +kernel) rfl) ?_
        refine jr_1 jm_131 (show jw_cd cd_131 27 = some (.getstatic 102) by decide +kernel) (cgs (v := .ref (jx_big + 3)) (by decide) rfl) ?_
        refine jr_1 jm_131 (show jw_cd cd_131 30 = some (.if_acmp .ne 26) by decide +kernel) (cac_ne_f (by decide)) ?_
        refine jr_1 jm_131 (show jw_cd cd_131 33 = some (.aload_n 0) by decide +kernel) rfl ?_
        refine jr_1 jm_131 (show jw_cd cd_131 34 = some (.getfield 9) by decide +kernel) (cgr_6_0 (show jw_fld 7 9 4 = some 0 by decide +kernel)) ?_
        refine jr_c jm_131 (show jw_cd cd_131 37 = some (.invokevirtual 45) by decide +kernel) (ccv (n := 0) (m2 := 58) (ci := 1) (a := 1) (bs := []) (r := []) (js_cls cl_c1 (by decide)) (show jw_find jw_cvT 7 45 = some (0, [(1, 58)]) by decide +kernel) (by decide) rfl rfl rfl) jm_58 ⟨Nat.le_of_ble_eq_true rfl, by decide⟩ c3 ?_
        refine jr_1 jm_131 (show jw_cd cd_131 40 = some (.bipush 41) by decide +kernel) (mt_bi (by decide)) ?_
        refine jr_1 jm_131 (show jw_cd cd_131 42 = some (.if_icmp .eq 14) by decide +kernel) (mb_f (q := .eq) (a := v) (b := 41) (by show ¬ (v = 41); exact hv) ⟨by omega, by omega⟩ ⟨by omega, by omega⟩ (by decide)) ?_
        refine jr_1 jm_131 (show jw_cd cd_131 45 = some (.aload_n 1) by decide +kernel) rfl ?_
        refine jr_1 jm_131 (show jw_cd cd_131 46 = some (.aload_n 0) by decide +kernel) rfl ?_
        refine jr_1 jm_131 (show jw_cd cd_131 47 = some (.getfield 9) by decide +kernel) (cgr_6_0 (show jw_fld 7 9 4 = some 0 by decide +kernel)) ?_
        refine jr_c jm_131 (show jw_cd cd_131 50 = some (.invokevirtual 77) by decide +kernel) (ccv (n := 0) (m2 := 98) (ci := 1) (a := 1) (bs := []) (r := [.ref sa]) (js_cls cl_c1 (by decide)) (show jw_find jw_cvT 7 77 = some (0, [(1, 98)]) by decide +kernel) (by decide) rfl rfl rfl) jm_98 ⟨Nat.le_of_ble_eq_true rfl, by decide⟩ c4 ?_
        refine jr_1 jm_131 (F2 := (56, [some (.ref 6), some (.ref sa), some (.ref t), some (.int (Int32.ofInt (p)))], [], (cl_mk (List.set (h1 ++ L) sa (.inr (13, [.ref (jx_big + 3), .ref N, .ref la]))) κ1))) (show jw_cd cd_131 53 = some (.putfield 105) by decide +kernel) (cpf (ap_old hl1 ⟨by omega, oA1⟩) (jbg (by omega)) (show jw_fld 7 105 13 = some 1 by decide +kernel) (show jw_ft 13 1 = some (.object "java/lang/String") from rfl) (show jw_fm 7 13 1 = some false by decide +kernel) rfl rfl (cl_set (by rw [List.length_append]; omega) (by omega))) ?_
        rw [← eh2]
        refine jr_1 jm_131 (show jw_cd cd_131 56 = some (.aload_n 0) by decide +kernel) rfl ?_
        refine jr_1 jm_131 (show jw_cd cd_131 57 = some (.getfield 9) by decide +kernel) (cgr_6_0 (show jw_fld 7 9 4 = some 0 by decide +kernel)) ?_
        refine jr_1 jm_131 (show jw_cd cd_131 60 = some (.bipush 41) by decide +kernel) (mt_bi (by decide)) ?_
        refine jr_c jm_131 (show jw_cd cd_131 62 = some (.invokevirtual 56) by decide +kernel) (ccv (n := 1) (m2 := 96) (ci := 1) (a := 1) (bs := [.int (Int32.ofInt (41))]) (r := []) (js_cls cl_c1 (by decide)) (show jw_find jw_cvT 7 56 = some (1, [(1, 96)]) by decide +kernel) (by decide) rfl rfl rfl) jm_96 ⟨Nat.le_of_ble_eq_true rfl, by decide⟩ rm ?_
        exact jr_v jm_131 (show jw_cd cd_131 65 = some (.return_) by decide +kernel) rfl
  obtain ⟨wn, ewn⟩ : ∃ wn, wn = (wordS s).toNat := ⟨_, rfl⟩
  rw [← ewn] at c1 hw9
  have hd : ¬ jx_big + wn = jx_big + 3 := by omega
  obtain ⟨h1, eh1⟩ : ∃ h1, h1 = List.set h sa (.inr (13, [.ref (jx_big + wn), .ref (jx_big + 9), .ref la])) := ⟨_, rfl⟩
  have hN1 : h1.length = N := by rw [eh1, List.length_set]; exact hN
  have hl1 : 50 ≤ h1.length := by omega
  have oA1 : h1[sa]? = some (.inr (13, [.ref (jx_big + wn), .ref (jx_big + 9), .ref la])) := by rw [eh1]; exact js_set_eq oA
  have v1 : cvol h1 = cvol h := by rw [eh1]; exact cvol_sO oA
  have f1 : ∀ (c : Nat) (y : jx_C), ¬ c = sa → h[c]? = some y → h1[c]? = some y := fun c y hc hy => by rw [eh1]; exact (js_set_ne (fun e => hc e.symm)).trans hy
  by_cases h41 : tH T n (q + 1) = 41
  · have hqn2 : q + 1 < n := (tH_r hT hq0).2.2.2 (by rw [h41]; decide)
    have e0 : sWrd T n s p q = .inr ((wordS s, [], []), q + 1 + 1) := (if_neg hw).trans ((if_neg (by rw [h41]; decide)).trans (if_pos h41))
    obtain ⟨κ2, ek2⟩ : ∃ κ2, κ2 = su κ 4 0 (q + 1 + 1) := ⟨_, rfl⟩
    have rm : jx_r (jz β) jw_M (d + 6) 96 (0, [some (.ref 1), some (.int (Int32.ofInt (41)))], [], (cl_mk h1 κ)) (cl_mk h1 (κ2), .inl none) := by rw [ek2]; exact jc_mustT hl1 hP ((tC_eq hP.1.2.2 hP.2.2.2.1 (by decide)).mpr h41) (by decide)
    refine ⟨κ2, h1, .ref (jx_big + wn), jx_big + 9, ?_, oA1, Or.inr ⟨_, rfl⟩, f1, ⟨by omega, by omega⟩, by omega, by rw [ek2]; exact mEq_su (mEq_refl _ _) (by decide), by rw [ek2, su_nf (by decide)]; exact hsc, fun st q2 hh => by rw [e0] at hh; injection hh with hh; injection hh with z1 z2; rw [← z1, ← z2]; exact ⟨⟨⟨by show 0 ≤ wordS s; omega, by show wordS s ≤ 8; omega⟩, by rw [ewn], emp_str⟩, by rw [ek2]; exact cP_mv hP (by omega) (by omega)⟩, fun e hh => (by rw [e0] at hh; cases hh)⟩
    refine jr_1 jm_131 (show jw_cd cd_131 0 = some (.aload_n 1) by decide +kernel) rfl ?_
    refine jr_1 jm_131 (show jw_cd cd_131 1 = some (.aload_n 2) by decide +kernel) rfl ?_
    refine jr_c jm_131 (show jw_cd cd_131 2 = some (.invokestatic 96) by decide +kernel) (mc_s (n := 1) (m2 := 132) (bs := [.ref t]) (r := [.ref sa]) (by decide) (show jw_find jw_csT 7 96 = some (132, 1) by decide +kernel) rfl rfl rfl) jm_132 ⟨Nat.le_of_ble_eq_true rfl, by decide⟩ c1 ?_
    refine jr_1 jm_131 (F2 := (8, [some (.ref 6), some (.ref sa), some (.ref t), some (.int (Int32.ofInt (p)))], [], (cl_mk (List.set h sa (.inr (13, [.ref (jx_big + wn), .ref (jx_big + 9), .ref la]))) κ))) (show jw_cd cd_131 5 = some (.putfield 60) by decide +kernel) (cpf (cl_old hl ⟨by omega, oA⟩) (jbg (by omega)) (show jw_fld 7 60 13 = some 0 by decide +kernel) (show jw_ft 13 0 = some (.object "PickDesk$Word") from rfl) (show jw_fm 7 13 0 = some false by decide +kernel) rfl rfl (cl_set (by omega) (by omega))) ?_
    rw [← eh1]
    refine jr_1 jm_131 (show jw_cd cd_131 8 = some (.aload_n 1) by decide +kernel) rfl ?_
    refine jr_1 jm_131 (show jw_cd cd_131 9 = some (.getfield 60) by decide +kernel) (js_getf (cl_old hl1 ⟨by omega, oA1⟩) (jbg (by omega)) (show jw_fld 7 60 13 = some 0 by decide +kernel) rfl) ?_
    refine jr_1 jm_131 (show jw_cd cd_131 12 = some (.ifnonnull 11) by decide +kernel) (cnn_r (t := 23) (by decide) (by decide)) ?_
    refine jr_1 jm_131 (show jw_cd cd_131 23 = some (.aload_n 1) by decide +kernel) rfl ?_
    refine jr_1 jm_131 (show jw_cd cd_131 24 = some (.getfield 60) by decide +kernel) (js_getf (cl_old hl1 ⟨by omega, oA1⟩) (jbg (by omega)) (show jw_fld 7 60 13 = some 0 by decide +kernel) rfl) ?_
    refine jr_1 jm_131 (show jw_cd cd_131 27 = some (.getstatic 102) by decide +kernel) (cgs (v := .ref (jx_big + 3)) (by decide) rfl) ?_
    refine jr_1 jm_131 (show jw_cd cd_131 30 = some (.if_acmp .ne 26) by decide +kernel) (cac_ne_t (t := 56) hd (jx_neW hw9 (by decide)) (by decide) (by decide)) ?_
    refine jr_1 jm_131 (show jw_cd cd_131 56 = some (.aload_n 0) by decide +kernel) rfl ?_
    refine jr_1 jm_131 (show jw_cd cd_131 57 = some (.getfield 9) by decide +kernel) (cgr_6_0 (show jw_fld 7 9 4 = some 0 by decide +kernel)) ?_
    refine jr_1 jm_131 (show jw_cd cd_131 60 = some (.bipush 41) by decide +kernel) (mt_bi (by decide)) ?_
    refine jr_c jm_131 (show jw_cd cd_131 62 = some (.invokevirtual 56) by decide +kernel) (ccv (n := 1) (m2 := 96) (ci := 1) (a := 1) (bs := [.int (Int32.ofInt (41))]) (r := []) (js_cls cl_c1 (by decide)) (show jw_find jw_cvT 7 56 = some (1, [(1, 96)]) by decide +kernel) (by decide) rfl rfl rfl) jm_96 ⟨Nat.le_of_ble_eq_true rfl, by decide⟩ rm ?_
    exact jr_v jm_131 (show jw_cd cd_131 65 = some (.return_) by decide +kernel) rfl
  · have e0 : sWrd T n s p q = .inl (q + 1) := by
      refine (if_neg hw).trans ?_
      by_cases hpl : pL (tH T n (q + 1)) = true
      · rw [if_pos hpl, if_pos h3]
      · rw [if_neg hpl, if_neg h41]
    obtain ⟨κ2, ek2⟩ : ∃ κ2, κ2 = su κ 5 0 (q + 1) := ⟨_, rfl⟩
    have rm : jx_r (jz β) jw_M (d + 6) 96 (0, [some (.ref 1), some (.int (Int32.ofInt (41)))], [], (cl_mk h1 κ)) (cl_mk h1 (κ2), .inl none) := by rw [ek2]; exact jc_mustF hl1 hP (fun e => h41 ((tC_eq hP.1.2.2 hP.2.2.2.1 (by decide)).mp e)) (by decide)
    refine ⟨κ2, h1, .ref (jx_big + wn), jx_big + 9, ?_, oA1, Or.inr ⟨_, rfl⟩, f1, ⟨by omega, by omega⟩, by omega, by rw [ek2]; exact mEq_su (mEq_refl _ _) (by decide), by rw [ek2, su_nf (by decide)]; exact hsc, fun st q2 hh => (by rw [e0] at hh; cases hh), fun e hh => by rw [e0] at hh; injection hh with hh; rw [← hh]; exact (by rw [ek2]; exact cP_w hP (by omega) (by omega))⟩
    refine jr_1 jm_131 (show jw_cd cd_131 0 = some (.aload_n 1) by decide +kernel) rfl ?_
    refine jr_1 jm_131 (show jw_cd cd_131 1 = some (.aload_n 2) by decide +kernel) rfl ?_
    refine jr_c jm_131 (show jw_cd cd_131 2 = some (.invokestatic 96) by decide +kernel) (mc_s (n := 1) (m2 := 132) (bs := [.ref t]) (r := [.ref sa]) (by decide) (show jw_find jw_csT 7 96 = some (132, 1) by decide +kernel) rfl rfl rfl) jm_132 ⟨Nat.le_of_ble_eq_true rfl, by decide⟩ c1 ?_
    refine jr_1 jm_131 (F2 := (8, [some (.ref 6), some (.ref sa), some (.ref t), some (.int (Int32.ofInt (p)))], [], (cl_mk (List.set h sa (.inr (13, [.ref (jx_big + wn), .ref (jx_big + 9), .ref la]))) κ))) (show jw_cd cd_131 5 = some (.putfield 60) by decide +kernel) (cpf (cl_old hl ⟨by omega, oA⟩) (jbg (by omega)) (show jw_fld 7 60 13 = some 0 by decide +kernel) (show jw_ft 13 0 = some (.object "PickDesk$Word") from rfl) (show jw_fm 7 13 0 = some false by decide +kernel) rfl rfl (cl_set (by omega) (by omega))) ?_
    rw [← eh1]
    refine jr_1 jm_131 (show jw_cd cd_131 8 = some (.aload_n 1) by decide +kernel) rfl ?_
    refine jr_1 jm_131 (show jw_cd cd_131 9 = some (.getfield 60) by decide +kernel) (js_getf (cl_old hl1 ⟨by omega, oA1⟩) (jbg (by omega)) (show jw_fld 7 60 13 = some 0 by decide +kernel) rfl) ?_
    refine jr_1 jm_131 (show jw_cd cd_131 12 = some (.ifnonnull 11) by decide +kernel) (cnn_r (t := 23) (by decide) (by decide)) ?_
    refine jr_1 jm_131 (show jw_cd cd_131 23 = some (.aload_n 1) by decide +kernel) rfl ?_
    refine jr_1 jm_131 (show jw_cd cd_131 24 = some (.getfield 60) by decide +kernel) (js_getf (cl_old hl1 ⟨by omega, oA1⟩) (jbg (by omega)) (show jw_fld 7 60 13 = some 0 by decide +kernel) rfl) ?_
    refine jr_1 jm_131 (show jw_cd cd_131 27 = some (.getstatic 102) by decide +kernel) (cgs (v := .ref (jx_big + 3)) (by decide) rfl) ?_
    refine jr_1 jm_131 (show jw_cd cd_131 30 = some (.if_acmp .ne 26) by decide +kernel) (cac_ne_t (t := 56) hd (jx_neW hw9 (by decide)) (by decide) (by decide)) ?_
    refine jr_1 jm_131 (show jw_cd cd_131 56 = some (.aload_n 0) by decide +kernel) rfl ?_
    refine jr_1 jm_131 (show jw_cd cd_131 57 = some (.getfield 9) by decide +kernel) (cgr_6_0 (show jw_fld 7 9 4 = some 0 by decide +kernel)) ?_
    refine jr_1 jm_131 (show jw_cd cd_131 60 = some (.bipush 41) by decide +kernel) (mt_bi (by decide)) ?_
    refine jr_c jm_131 (show jw_cd cd_131 62 = some (.invokevirtual 56) by decide +kernel) (ccv (n := 1) (m2 := 96) (ci := 1) (a := 1) (bs := [.int (Int32.ofInt (41))]) (r := []) (js_cls cl_c1 (by decide)) (show jw_find jw_cvT 7 56 = some (1, [(1, 96)]) by decide +kernel) (by decide) rfl rfl rfl) jm_96 ⟨Nat.le_of_ble_eq_true rfl, by decide⟩ rm ?_
    exact jr_v jm_131 (show jw_cd cd_131 65 = some (.return_) by decide +kernel) rfl
