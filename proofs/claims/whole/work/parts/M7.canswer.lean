/-! ===== the class: answer (printed by program: gen135.py) ===== -/
theorem jm_158 : jw_M 158 = some (9, 6, ((Option.some (Jvm.ClassFile.FieldType.object "PickDesk$Value")), false), jw_cd cd_158, fun _ _ => none) := rfl
def stC (st : sT) (v : vT) : Nat := if st.1 < 0 then 3 * clT (some v) [] st.2.2 else 6
def stW (st : sT) (v : vT) : Nat := if st.1 < 0 then 6 * clT (some v) [] st.2.2 + rsT (some v) [] st.2.2 else 24 + fsz v.2
def rnC : List sT → vT → Nat
  | [], _ => 0
  | st :: l, v => stC st v + rnC l (stgV (stg st v))
def rnW : List sT → vT → Nat
  | [], _ => 0
  | st :: l, v => stW st v + rnW l (stgV (stg st v))
/-- a stage as it is read -/
def sgP (st : sT) : Prop := (st.1 = -1 ∧ (∀ e ∈ st.2.2, stO e) ∧ st.2.2.length ≤ 12) ∨ ((0 ≤ st.1 ∧ st.1 ≤ 8) ∧ tx st.2.1 ∧ (¬ st.1 = 3 → st.2.1 = []))
def prP (v : vT) : Prop := vok v ∧ cnV v ∧ fdp v.2 ≤ 8 ∧ fct v.2 ≤ 390
theorem nul_p : prP nulV := ⟨nulV_ok, nulV_cn, Nat.zero_le _, Nat.zero_le _⟩
theorem evT_p : ∀ (l acc : List sE) (x : Option vT), (∀ e ∈ acc, stO e) → (∀ e ∈ l, stO e) → prP (dv x) → prP (dv (evT x acc l))
  | [], acc, x, ha, _, hp => evP_p ha hp
  | e :: l, acc, x, ha, hl, hp => by
    have he := hl e List.mem_cons_self
    have hl := fun e' h' => hl e' (List.mem_cons_of_mem _ h')
    by_cases h6 : e.1 = 6
    · have e1 : evT x acc (e :: l) = evT (x.bind (evS acc)) [e] l := if_pos h6
      rw [e1]
      exact evT_p l [e] _ (fun e' h' => by rw [List.mem_singleton.mp h']; exact he) hl (evP_p ha hp)
    · have e1 : evT x acc (e :: l) = evT x (acc ++ [e]) l := if_neg h6
      rw [e1]
      exact evT_p l _ x (fun e' h' => by
        rcases List.mem_append.mp h' with z | z
        · exact ha e' z
        · rw [List.mem_singleton.mp z]
          exact he) hl hp
theorem doS_p {w : Int} {s : List Int} {v : vT} (hp : prP v) : prP (dv (doS w s v).2) := by
  cases hd : (doS w s v).2 with
  | none => exact nul_p
  | some u =>
    have a := doS_ok hp.1 hp.2.2.2 hd
    have b := doS_I hp.1 hp.2.1 hp.2.2.2 hd
    exact ⟨a.1, b.1, Nat.le_trans b.2.1 hp.2.2.1, Nat.le_trans a.2 hp.2.2.2⟩
theorem stg_p {st : sT} {v : vT} (hs : sgP st) (hp : prP v) : prP (stgV (stg st v)) := by
  unfold stgV
  by_cases h0 : (stg st v).1 = 0
  · rw [if_pos h0]
    unfold stg
    rcases hs with ⟨h1, h2, -⟩ | ⟨h1, -⟩
    · rw [if_pos (by omega)]
      exact evT_p st.2.2 [] (some v) (fun e h => absurd h List.not_mem_nil) h2 hp
    · rw [if_neg (by omega)]
      exact doS_p hp
  · rw [if_neg h0]
    exact nul_p
theorem vR_nul {h : jx_H} {X : Nat → Prop} : vR h X 7 nulV := Or.inl ⟨rfl, rfl, rfl, rfl, rfl⟩
/-- a query, open -/
def qyO (h : jx_H) (X : Nat → Prop) (qy la ea cap : Nat) (fq : Nat → Value) (L : List sT) : Prop := (zc X qy ∧ h[qy]? = some (.inr (11, [.ref la]))) ∧ alC h X la ea cap L.length fq ∧ sgL h X fq L
theorem qyO_fr {h h' : jx_H} {X X' : Nat → Prop} (hq : hQ h h' X X') {qy la ea cap : Nat} {fq : Nat → Value} {L : List sT} (hs : qyO h X qy la ea cap fq L) : qyO h' X' qy la ea cap fq L := by
  obtain ⟨⟨z, hA⟩, h2, h3⟩ := hs
  have q1 := hq qy _ z hA
  exact ⟨⟨q1.1, q1.2⟩, alC_fr hq h2, sgL_fr hq h3⟩
theorem jc_ansL {β : Bool} {d : Nat} {X : Nat → Prop} {qy v0 la ea cap : Nat} {fq : Nat → Value} {L : List sT} (hP : ∀ st ∈ L, sgP st) : ∀ (l : List sT) (i gv : Nat) (v : vT) (h : jx_H) (κ : mS) (t5 : Option Value), l = L.drop i → i ≤ L.length → 50 ≤ h.length → (∀ c, h.length ≤ c → ¬ X c) → h.length + rnC l v + 20 < 2700000000 → qyO h X qy la ea cap fq L → vR h X gv v → prP v → κ 10 0 = 0 → ∃ (h' : jx_H) (κ' : mS) (c : Nat), jx_r (jz β) jw_M (d + 28) 158 (10, [some (.ref 10), some (.ref qy), some (.ref v0), some (.ref gv), some (.int (Int32.ofInt (((i : Nat) : Int)))), t5], [], (cl_mk h κ)) (cl_mk h' κ', .inl (some (.ref (c)))) ∧ vR h' X c (runS l v).2 ∧ κ' 10 0 = (runS l v).1 ∧ mEq [10] κ κ' ∧ (∀ (c : Nat) (y : jx_C), h[c]? = some y → h'[c]? = some y) ∧ (h.length ≤ h'.length ∧ h'.length ≤ h.length + rnC l v) ∧ cvol h' ≤ cvol h + rnW l v
  | [], i, gv, v, h, κ, t5, hd, hi, hl, hx, hlen, hq, hv, hp, h10 => by
    obtain ⟨⟨zq, oQ⟩, hal, hsg⟩ := id hq
    have zq1 := zq.1
    have zq2 := zq.2.1
    obtain ⟨zla, ⟨md, oL⟩, hal3⟩ := id hal
    have zl1 := zla.1
    have zl2 := zla.2.1
    have hL3 : L.length ≤ 300 := by
      rcases hal3 with ⟨-, -, z⟩ | ⟨-, -, -, z1, -, z2⟩ <;> omega
    have cz := jc_alSz (β := β) (d := d + 27) (κ := κ) hl (sgL_U hal hsg)
    have hil : L.length ≤ i := List.drop_eq_nil_iff.mp hd.symm
    refine ⟨h, κ, gv, ?_, hv, h10, mEq_refl _ _, fun _ _ hy => hy, ⟨Nat.le_refl _, Nat.le_add_right _ _⟩, Nat.le_add_right _ _⟩
    refine jr_1 jm_158 (show jw_cd cd_158 10 = some (.iload 4) by decide +kernel) rfl ?_
    refine jr_1 jm_158 (show jw_cd cd_158 12 = some (.aload_n 1) by decide +kernel) rfl ?_
    refine jr_1 jm_158 (show jw_cd cd_158 13 = some (.getfield 28) by decide +kernel) (js_getf (cl_old hl ⟨by omega, oQ⟩) (jbg (by omega)) (show jw_fld 9 28 11 = some 0 by decide +kernel) rfl) ?_
    refine jr_c jm_158 (show jw_cd cd_158 16 = some (.invokevirtual 34) by decide +kernel) (ccv (n := 0) (m2 := 159) (ci := 12) (a := la) (bs := []) (r := [.int (Int32.ofInt (((i : Nat) : Int)))]) (js_cls (cl_old hl ⟨by omega, oL⟩) (jbg (by omega))) (show jw_find jw_cvT 9 34 = some (0, [(12, 159)]) by decide +kernel) (by decide) rfl rfl rfl) jm_159 ⟨Nat.le_of_ble_eq_true rfl, by decide⟩ cz ?_
    refine jr_1 jm_158 (show jw_cd cd_158 19 = some (.if_icmp .ge 95) by decide +kernel) (mb_t (q := .ge) (a := ((i : Nat) : Int)) (b := ((L.length : Nat) : Int)) (t := 114) (by show ((L.length : Nat) : Int) ≤ ((i : Nat) : Int); omega) ⟨by omega, by omega⟩ ⟨by omega, by omega⟩ (by decide) (by decide)) ?_
    refine jr_1 jm_158 (show jw_cd cd_158 114 = some (.aload_n 3) by decide +kernel) rfl ?_
    exact jr_v jm_158 (show jw_cd cd_158 115 = some (.areturn) by decide +kernel) rfl
  | st :: l, i, gv, v, h, κ, t5, hd, hi, hl, hx, hlen, hq, hv, hp, h10 => by
    obtain ⟨⟨zq, oQ⟩, hal, hsg⟩ := id hq
    have zq1 := zq.1
    have zq2 := zq.2.1
    obtain ⟨zla, ⟨md, oL⟩, hal3⟩ := id hal
    have zl1 := zla.1
    have zl2 := zla.2.1
    have hL3 : L.length ≤ 300 := by
      rcases hal3 with ⟨-, -, z⟩ | ⟨-, -, -, z1, -, z2⟩ <;> omega
    have cz := jc_alSz (β := β) (d := d + 27) (κ := κ) hl (sgL_U hal hsg)
    have hil : i < L.length := by
      by_cases z : i < L.length
      · exact z
      · rw [List.drop_eq_nil_iff.mpr (by omega)] at hd
        cases hd
    have hei : L[i]? = some st := by rw [← List.head?_drop, ← hd]; rfl
    have hd2 : l = L.drop (i + 1) := by rw [← List.tail_drop, ← hd]; rfl
    have hsP := hP st (List.mem_of_getElem? hei)
    obtain ⟨sg, hfi, zs, t, lb, wv, oS, hst⟩ := hsg i st hei
    have zs1 := zs.1
    have zs2 := zs.2.1
    have cg := jc_alGet (β := β) (d := d + 25) (κ := κ) (i := i) hl (sgL_U hal hsg) hil hfi
    have eC : rnC (st :: l) v = stC st v + rnC l (stgV (stg st v)) := rfl
    have eW : rnW (st :: l) v = stW st v + rnW l (stgV (stg st v)) := rfl
    rw [eC] at hlen
    have hp2 := stg_p hsP hp
    rcases hst with ⟨hm1, rfl, ea', cap', f', hal', hsp'⟩ | ⟨hw, rfl, ht⟩
    · obtain ⟨-, hsO, h12⟩ : st.1 = -1 ∧ (∀ e ∈ st.2.2, stO e) ∧ st.2.2.length ≤ 12 := by
        rcases hsP with z | ⟨z, -⟩
        · exact z
        · omega
      have eg : stg st v = (0, evT (some v) [] st.2.2) := if_pos (by omega)
      have ec : stC st v = 3 * clT (some v) [] st.2.2 := if_pos (by omega)
      have ew : stW st v = 6 * clT (some v) [] st.2.2 + rsT (some v) [] st.2.2 := if_pos (by omega)
      have ev : stgV (stg st v) = dv (evT (some v) [] st.2.2) := by rw [eg]; rfl
      have er : runS (st :: l) v = runS l (stgV (stg st v)) := if_pos (by rw [eg])
      rw [ec] at hlen eC
      rw [ew] at eW
      rw [ev] at hlen hp2 er eC eW
      rw [er, eC, eW]
      obtain ⟨h', c, c1, p1, p2, p3, p4⟩ := jc_parts (β := β) (d := d) (κ := κ) (v0 := gv) hl h12 hx (by omega) ⟨⟨zs, oS⟩, hal', hsp', hsO, by omega⟩ hv hp
      obtain ⟨h2, κ2, c2, r1, r2, r3, r4, r5, r6, r7⟩ := jc_ansL (β := β) (d := d) (v0 := v0) hP l (i + 1) c (dv (evT (some v) [] st.2.2)) h' κ (some (.ref sg)) hd2 hil (by omega) (fun c hc => hx c (by omega)) (by omega) (qyO_fr (fun c y z hy => ⟨z, p2 c y hy⟩) hq) (vQ_R p1) hp2 h10
      refine ⟨h2, κ2, c2, ?_, r2, r3, r4, fun c y hy => r5 c y (p2 c y hy), ⟨by omega, by omega⟩, by omega⟩
      refine jr_1 jm_158 (show jw_cd cd_158 10 = some (.iload 4) by decide +kernel) rfl ?_
      refine jr_1 jm_158 (show jw_cd cd_158 12 = some (.aload_n 1) by decide +kernel) rfl ?_
      refine jr_1 jm_158 (show jw_cd cd_158 13 = some (.getfield 28) by decide +kernel) (js_getf (cl_old hl ⟨by omega, oQ⟩) (jbg (by omega)) (show jw_fld 9 28 11 = some 0 by decide +kernel) rfl) ?_
      refine jr_c jm_158 (show jw_cd cd_158 16 = some (.invokevirtual 34) by decide +kernel) (ccv (n := 0) (m2 := 159) (ci := 12) (a := la) (bs := []) (r := [.int (Int32.ofInt (((i : Nat) : Int)))]) (js_cls (cl_old hl ⟨by omega, oL⟩) (jbg (by omega))) (show jw_find jw_cvT 9 34 = some (0, [(12, 159)]) by decide +kernel) (by decide) rfl rfl rfl) jm_159 ⟨Nat.le_of_ble_eq_true rfl, by decide⟩ cz ?_
      refine jr_1 jm_158 (show jw_cd cd_158 19 = some (.if_icmp .ge 95) by decide +kernel) (mb_f (q := .ge) (a := ((i : Nat) : Int)) (b := ((L.length : Nat) : Int)) (by show ¬ (((L.length : Nat) : Int) ≤ ((i : Nat) : Int)); omega) ⟨by omega, by omega⟩ ⟨by omega, by omega⟩ (by decide)) ?_
      refine jr_1 jm_158 (show jw_cd cd_158 22 = some (.aload_n 1) by decide +kernel) rfl ?_
      refine jr_1 jm_158 (show jw_cd cd_158 23 = some (.getfield 28) by decide +kernel) (js_getf (cl_old hl ⟨by omega, oQ⟩) (jbg (by omega)) (show jw_fld 9 28 11 = some 0 by decide +kernel) rfl) ?_
      refine jr_1 jm_158 (show jw_cd cd_158 26 = some (.iload 4) by decide +kernel) rfl ?_
      refine jr_c jm_158 (show jw_cd cd_158 28 = some (.invokevirtual 40) by decide +kernel) (ccv (n := 1) (m2 := 160) (ci := 12) (a := la) (bs := [.int (Int32.ofInt (((i : Nat) : Int)))]) (r := []) (js_cls (cl_old hl ⟨by omega, oL⟩) (jbg (by omega))) (show jw_find jw_cvT 9 40 = some (1, [(12, 160)]) by decide +kernel) (by decide) rfl rfl rfl) jm_160 ⟨Nat.le_of_ble_eq_true rfl, by decide⟩ cg ?_
      refine jr_1 jm_158 (show jw_cd cd_158 31 = some (.checkcast 44) by decide +kernel) (cck (js_cls (cl_old hl ⟨by omega, oS⟩) (jbg (by omega))) (show jw_ct 9 44 13 = some true by decide +kernel)) ?_
      refine jr_1 jm_158 (F2 := (36, [some (.ref 10), some (.ref qy), some (.ref v0), some (.ref gv), some (.int (Int32.ofInt (((i : Nat) : Int)))), some (.ref sg)], [], (cl_mk h κ))) (show jw_cd cd_158 34 = some (.astore 5) by decide +kernel) rfl ?_
      refine jr_1 jm_158 (show jw_cd cd_158 36 = some (.aload 5) by decide +kernel) rfl ?_
      refine jr_1 jm_158 (show jw_cd cd_158 38 = some (.getfield 46) by decide +kernel) (js_getf (cl_old hl ⟨by omega, oS⟩) (jbg (by omega)) (show jw_fld 9 46 13 = some 0 by decide +kernel) rfl) ?_
      refine jr_1 jm_158 (show jw_cd cd_158 41 = some (.ifnonnull 14) by decide +kernel) (cnn_n (by decide)) ?_
      refine jr_1 jm_158 (show jw_cd cd_158 44 = some (.aload_n 0) by decide +kernel) rfl ?_
      refine jr_1 jm_158 (show jw_cd cd_158 45 = some (.aload 5) by decide +kernel) rfl ?_
      refine jr_1 jm_158 (show jw_cd cd_158 47 = some (.aload_n 3) by decide +kernel) rfl ?_
      refine jr_c jm_158 (show jw_cd cd_158 48 = some (.invokevirtual 50) by decide +kernel) (ccv (n := 2) (m2 := 163) (ci := 6) (a := 10) (bs := [.ref sg, .ref gv]) (r := []) (js_cls cl_c10 (by decide)) (show jw_find jw_cvT 9 50 = some (2, [(6, 163)]) by decide +kernel) (by decide) rfl rfl rfl) jm_163 ⟨Nat.le_of_ble_eq_true rfl, by decide⟩ c1 ?_
      refine jr_1 jm_158 (F2 := (52, [some (.ref 10), some (.ref qy), some (.ref v0), some (.ref c), some (.int (Int32.ofInt (((i : Nat) : Int)))), some (.ref sg)], [], (cl_mk h' κ))) (show jw_cd cd_158 51 = some (.astore_n 3) by decide +kernel) rfl ?_
      refine jr_1 jm_158 (show jw_cd cd_158 52 = some (.goto 56) by decide +kernel) (ju_go (t := 108) (by decide)) ?_
      refine jr_1 jm_158 (F2 := (111, [some (.ref 10), some (.ref qy), some (.ref v0), some (.ref c), some (.int (Int32.ofInt (((i : Nat) : Int) + 1))), some (.ref sg)], [], (cl_mk h' κ))) (show jw_cd cd_158 108 = some (.iinc 4 1) by decide +kernel) (mt_inc (a := ((i : Nat) : Int)) (c := ((i : Nat) : Int) + 1) rfl (by omega) rfl) ?_
      refine jr_1 jm_158 (show jw_cd cd_158 111 = some (.goto (-101)) by decide +kernel) (ju_go (t := 10) (by decide)) ?_
      exact r1
    · obtain ⟨-, hts, hky⟩ : (0 ≤ st.1 ∧ st.1 ≤ 8) ∧ tx st.2.1 ∧ (¬ st.1 = 3 → st.2.1 = []) := by
        rcases hsP with ⟨z, -⟩ | z
        · omega
        · exact z
      obtain ⟨w, ewn⟩ : ∃ w : Nat, w = st.1.toNat := ⟨_, rfl⟩
      have ewi : st.1 = (w : Int) := by omega
      rw [← ewn] at oS
      have eg : stg st v = doS (w : Int) st.2.1 v := by rw [← ewi]; exact if_neg (by omega)
      have ec : stC st v = 6 := if_neg (by omega)
      have ew : stW st v = 24 + fsz v.2 := if_neg (by omega)
      have hF := fsz_le v.2
      have hF2 := hp.2.2.2
      have hky' : ¬ w = 3 → st.2.1 = [] := fun z => hky (by omega)
      have c1 := jc_fail (β := β) (d := d + 22) (κ := κ) (w := w) hl (vR_O (κ := κ) hl hv) hp.1.1 hp.1.2 ht hts (by omega) hky'
      obtain ⟨fl, efl⟩ : ∃ fl : Int, fl = (doS (w : Int) st.2.1 v).1 := ⟨_, rfl⟩
      have c1 : jx_r (jz β) jw_M (d + 22 + 5) 175 (0, [some (.ref 11), some (.ref (jx_big + w)), some (.ref gv), some (.ref t), none], [], (cl_mk h κ)) (cl_mk h (κ), .inl (some (.int (Int32.ofInt (fl))))) := by rw [efl]; exact c1
      have hfl := doS_f (w : Int) st.2.1 v
      rw [← efl] at hfl
      by_cases h0 : fl = 0
      rotate_left
      · have er : runS (st :: l) v = (fl, nulV) := by
          have : runS (st :: l) v = ((stg st v).1, nulV) := if_neg (by rw [eg, ← efl]; exact h0)
          rw [this, eg, ← efl]
        rw [er]
        refine ⟨h, su κ 10 0 fl, 7, ?_, vR_nul, su_eq _ _ _ _, mEq_su (mEq_refl _ _) List.mem_cons_self, fun _ _ hy => hy, ⟨Nat.le_refl _, Nat.le_add_right _ _⟩, Nat.le_add_right _ _⟩
        refine jr_1 jm_158 (show jw_cd cd_158 10 = some (.iload 4) by decide +kernel) rfl ?_
        refine jr_1 jm_158 (show jw_cd cd_158 12 = some (.aload_n 1) by decide +kernel) rfl ?_
        refine jr_1 jm_158 (show jw_cd cd_158 13 = some (.getfield 28) by decide +kernel) (js_getf (cl_old hl ⟨by omega, oQ⟩) (jbg (by omega)) (show jw_fld 9 28 11 = some 0 by decide +kernel) rfl) ?_
        refine jr_c jm_158 (show jw_cd cd_158 16 = some (.invokevirtual 34) by decide +kernel) (ccv (n := 0) (m2 := 159) (ci := 12) (a := la) (bs := []) (r := [.int (Int32.ofInt (((i : Nat) : Int)))]) (js_cls (cl_old hl ⟨by omega, oL⟩) (jbg (by omega))) (show jw_find jw_cvT 9 34 = some (0, [(12, 159)]) by decide +kernel) (by decide) rfl rfl rfl) jm_159 ⟨Nat.le_of_ble_eq_true rfl, by decide⟩ cz ?_
        refine jr_1 jm_158 (show jw_cd cd_158 19 = some (.if_icmp .ge 95) by decide +kernel) (mb_f (q := .ge) (a := ((i : Nat) : Int)) (b := ((L.length : Nat) : Int)) (by show ¬ (((L.length : Nat) : Int) ≤ ((i : Nat) : Int)); omega) ⟨by omega, by omega⟩ ⟨by omega, by omega⟩ (by decide)) ?_
        refine jr_1 jm_158 (show jw_cd cd_158 22 = some (.aload_n 1) by decide +kernel) rfl ?_
        refine jr_1 jm_158 (show jw_cd cd_158 23 = some (.getfield 28) by decide +kernel) (js_getf (cl_old hl ⟨by omega, oQ⟩) (jbg (by omega)) (show jw_fld 9 28 11 = some 0 by decide +kernel) rfl) ?_
        refine jr_1 jm_158 (show jw_cd cd_158 26 = some (.iload 4) by decide +kernel) rfl ?_
        refine jr_c jm_158 (show jw_cd cd_158 28 = some (.invokevirtual 40) by decide +kernel) (ccv (n := 1) (m2 := 160) (ci := 12) (a := la) (bs := [.int (Int32.ofInt (((i : Nat) : Int)))]) (r := []) (js_cls (cl_old hl ⟨by omega, oL⟩) (jbg (by omega))) (show jw_find jw_cvT 9 40 = some (1, [(12, 160)]) by decide +kernel) (by decide) rfl rfl rfl) jm_160 ⟨Nat.le_of_ble_eq_true rfl, by decide⟩ cg ?_
        refine jr_1 jm_158 (show jw_cd cd_158 31 = some (.checkcast 44) by decide +kernel) (cck (js_cls (cl_old hl ⟨by omega, oS⟩) (jbg (by omega))) (show jw_ct 9 44 13 = some true by decide +kernel)) ?_
        refine jr_1 jm_158 (F2 := (36, [some (.ref 10), some (.ref qy), some (.ref v0), some (.ref gv), some (.int (Int32.ofInt (((i : Nat) : Int)))), some (.ref sg)], [], (cl_mk h κ))) (show jw_cd cd_158 34 = some (.astore 5) by decide +kernel) rfl ?_
        refine jr_1 jm_158 (show jw_cd cd_158 36 = some (.aload 5) by decide +kernel) rfl ?_
        refine jr_1 jm_158 (show jw_cd cd_158 38 = some (.getfield 46) by decide +kernel) (js_getf (cl_old hl ⟨by omega, oS⟩) (jbg (by omega)) (show jw_fld 9 46 13 = some 0 by decide +kernel) rfl) ?_
        refine jr_1 jm_158 (show jw_cd cd_158 41 = some (.ifnonnull 14) by decide +kernel) (cnn_r (t := 55) (by decide) (by decide)) ?_
        refine jr_1 jm_158 (show jw_cd cd_158 55 = some (.aload_n 0) by decide +kernel) rfl ?_
        refine jr_1 jm_158 (show jw_cd cd_158 56 = some (.aload_n 0) by decide +kernel) rfl ?_
        refine jr_1 jm_158 (show jw_cd cd_158 57 = some (.getfield 20) by decide +kernel) (cgr_10_1 (show jw_fld 9 20 6 = some 1 by decide +kernel)) ?_
        refine jr_1 jm_158 (show jw_cd cd_158 60 = some (.aload 5) by decide +kernel) rfl ?_
        refine jr_1 jm_158 (show jw_cd cd_158 62 = some (.getfield 46) by decide +kernel) (js_getf (cl_old hl ⟨by omega, oS⟩) (jbg (by omega)) (show jw_fld 9 46 13 = some 0 by decide +kernel) rfl) ?_
        refine jr_1 jm_158 (show jw_cd cd_158 65 = some (.aload_n 3) by decide +kernel) rfl ?_
        refine jr_1 jm_158 (show jw_cd cd_158 66 = some (.aload 5) by decide +kernel) rfl ?_
        refine jr_1 jm_158 (show jw_cd cd_158 68 = some (.getfield 54) by decide +kernel) (js_getf (cl_old hl ⟨by omega, oS⟩) (jbg (by omega)) (show jw_fld 9 54 13 = some 1 by decide +kernel) rfl) ?_
        refine jr_c jm_158 (show jw_cd cd_158 71 = some (.invokevirtual 58) by decide +kernel) (ccv (n := 3) (m2 := 175) (ci := 7) (a := 11) (bs := [.ref (jx_big + w), .ref gv, .ref t]) (r := [.ref 10]) (js_cls cl_c11 (by decide)) (show jw_find jw_cvT 9 58 = some (3, [(7, 175)]) by decide +kernel) (by decide) rfl rfl rfl) jm_175 ⟨Nat.le_of_ble_eq_true rfl, by decide⟩ c1 ?_
        refine jr_1 jm_158 (show jw_cd cd_158 74 = some (.putfield 24) by decide +kernel) (cp_10 (x := fl) (show jw_fld 9 24 6 = some 2 by decide +kernel) (show jw_fm 9 6 2 = some false by decide +kernel)) ?_
        refine jr_1 jm_158 (show jw_cd cd_158 77 = some (.aload_n 0) by decide +kernel) rfl ?_
        refine jr_1 jm_158 (show jw_cd cd_158 78 = some (.getfield 24) by decide +kernel) (cg_10 (e := fl) (su_eq _ _ _ _) (show jw_fld 9 24 6 = some 2 by decide +kernel)) ?_
        refine jr_1 jm_158 (show jw_cd cd_158 81 = some (.ifCond .eq 8) by decide +kernel) (mz_f (q := .eq) (a := fl) (by show ¬ (fl = 0); omega) ⟨by omega, by omega⟩ (by decide)) ?_
        refine jr_1 jm_158 (show jw_cd cd_158 84 = some (.aload_n 0) by decide +kernel) rfl ?_
        refine jr_1 jm_158 (show jw_cd cd_158 85 = some (.getfield 9) by decide +kernel) (cgr_10_0 (show jw_fld 9 9 6 = some 0 by decide +kernel)) ?_
        exact jr_v jm_158 (show jw_cd cd_158 88 = some (.areturn) by decide +kernel) rfl
      have hz : (doS (w : Int) st.2.1 v).1 = 0 := by rw [← efl]; exact h0
      have ev : stgV (stg st v) = dv (doS (w : Int) st.2.1 v).2 := by rw [eg]; exact if_pos hz
      have er : runS (st :: l) v = runS l (stgV (stg st v)) := if_pos (by rw [eg]; exact hz)
      rw [ec] at hlen eC
      rw [ew] at eW
      rw [ev] at hlen hp2 er eC eW
      rw [er, eC, eW]
      obtain ⟨h', c, c2, p1, p2, p3, p4, p5⟩ := jc_give (β := β) (d := d + 20) (κ := su κ 10 0 fl) (i := v.1) (F := v.2) (t0 := t) hl rfl (by omega) hx hv hp.1.1 hp.1.2 (by omega) ht hts (w := w) (by omega) hky' hz
      obtain ⟨h2, κ2, c3, r1, r2, r3, r4, r5, r6, r7⟩ := jc_ansL (β := β) (d := d) (v0 := v0) hP l (i + 1) c (dv (doS (w : Int) st.2.1 v).2) h' (su κ 10 0 fl) (some (.ref sg)) hd2 hil (by omega) (fun c hc => hx c (by omega)) (by omega) (qyO_fr (fun c y z hy => ⟨z, p2 c y hy⟩) hq) (vQ_R p1) hp2 (by rw [su_eq]; exact h0)
      refine ⟨h2, κ2, c3, ?_, r2, r3, mEq_trans (mEq_su (mEq_refl _ _) List.mem_cons_self) r4, fun c y hy => r5 c y (p2 c y hy), ⟨by omega, by omega⟩, by omega⟩
      refine jr_1 jm_158 (show jw_cd cd_158 10 = some (.iload 4) by decide +kernel) rfl ?_
      refine jr_1 jm_158 (show jw_cd cd_158 12 = some (.aload_n 1) by decide +kernel) rfl ?_
      refine jr_1 jm_158 (show jw_cd cd_158 13 = some (.getfield 28) by decide +kernel) (js_getf (cl_old hl ⟨by omega, oQ⟩) (jbg (by omega)) (show jw_fld 9 28 11 = some 0 by decide +kernel) rfl) ?_
      refine jr_c jm_158 (show jw_cd cd_158 16 = some (.invokevirtual 34) by decide +kernel) (ccv (n := 0) (m2 := 159) (ci := 12) (a := la) (bs := []) (r := [.int (Int32.ofInt (((i : Nat) : Int)))]) (js_cls (cl_old hl ⟨by omega, oL⟩) (jbg (by omega))) (show jw_find jw_cvT 9 34 = some (0, [(12, 159)]) by decide +kernel) (by decide) rfl rfl rfl) jm_159 ⟨Nat.le_of_ble_eq_true rfl, by decide⟩ cz ?_
      refine jr_1 jm_158 (show jw_cd cd_158 19 = some (.if_icmp .ge 95) by decide +kernel) (mb_f (q := .ge) (a := ((i : Nat) : Int)) (b := ((L.length : Nat) : Int)) (by show ¬ (((L.length : Nat) : Int) ≤ ((i : Nat) : Int)); omega) ⟨by omega, by omega⟩ ⟨by omega, by omega⟩ (by decide)) ?_
      refine jr_1 jm_158 (show jw_cd cd_158 22 = some (.aload_n 1) by decide +kernel) rfl ?_
      refine jr_1 jm_158 (show jw_cd cd_158 23 = some (.getfield 28) by decide +kernel) (js_getf (cl_old hl ⟨by omega, oQ⟩) (jbg (by omega)) (show jw_fld 9 28 11 = some 0 by decide +kernel) rfl) ?_
      refine jr_1 jm_158 (show jw_cd cd_158 26 = some (.iload 4) by decide +kernel) rfl ?_
      refine jr_c jm_158 (show jw_cd cd_158 28 = some (.invokevirtual 40) by decide +kernel) (ccv (n := 1) (m2 := 160) (ci := 12) (a := la) (bs := [.int (Int32.ofInt (((i : Nat) : Int)))]) (r := []) (js_cls (cl_old hl ⟨by omega, oL⟩) (jbg (by omega))) (show jw_find jw_cvT 9 40 = some (1, [(12, 160)]) by decide +kernel) (by decide) rfl rfl rfl) jm_160 ⟨Nat.le_of_ble_eq_true rfl, by decide⟩ cg ?_
      refine jr_1 jm_158 (show jw_cd cd_158 31 = some (.checkcast 44) by decide +kernel) (cck (js_cls (cl_old hl ⟨by omega, oS⟩) (jbg (by omega))) (show jw_ct 9 44 13 = some true by decide +kernel)) ?_
      refine jr_1 jm_158 (F2 := (36, [some (.ref 10), some (.ref qy), some (.ref v0), some (.ref gv), some (.int (Int32.ofInt (((i : Nat) : Int)))), some (.ref sg)], [], (cl_mk h κ))) (show jw_cd cd_158 34 = some (.astore 5) by decide +kernel) rfl ?_
      refine jr_1 jm_158 (show jw_cd cd_158 36 = some (.aload 5) by decide +kernel) rfl ?_
      refine jr_1 jm_158 (show jw_cd cd_158 38 = some (.getfield 46) by decide +kernel) (js_getf (cl_old hl ⟨by omega, oS⟩) (jbg (by omega)) (show jw_fld 9 46 13 = some 0 by decide +kernel) rfl) ?_
      refine jr_1 jm_158 (show jw_cd cd_158 41 = some (.ifnonnull 14) by decide +kernel) (cnn_r (t := 55) (by decide) (by decide)) ?_
      refine jr_1 jm_158 (show jw_cd cd_158 55 = some (.aload_n 0) by decide +kernel) rfl ?_
      refine jr_1 jm_158 (show jw_cd cd_158 56 = some (.aload_n 0) by decide +kernel) rfl ?_
      refine jr_1 jm_158 (show jw_cd cd_158 57 = some (.getfield 20) by decide +kernel) (cgr_10_1 (show jw_fld 9 20 6 = some 1 by decide +kernel)) ?_
      refine jr_1 jm_158 (show jw_cd cd_158 60 = some (.aload 5) by decide +kernel) rfl ?_
      refine jr_1 jm_158 (show jw_cd cd_158 62 = some (.getfield 46) by decide +kernel) (js_getf (cl_old hl ⟨by omega, oS⟩) (jbg (by omega)) (show jw_fld 9 46 13 = some 0 by decide +kernel) rfl) ?_
      refine jr_1 jm_158 (show jw_cd cd_158 65 = some (.aload_n 3) by decide +kernel) rfl ?_
      refine jr_1 jm_158 (show jw_cd cd_158 66 = some (.aload 5) by decide +kernel) rfl ?_
      refine jr_1 jm_158 (show jw_cd cd_158 68 = some (.getfield 54) by decide +kernel) (js_getf (cl_old hl ⟨by omega, oS⟩) (jbg (by omega)) (show jw_fld 9 54 13 = some 1 by decide +kernel) rfl) ?_
      refine jr_c jm_158 (show jw_cd cd_158 71 = some (.invokevirtual 58) by decide +kernel) (ccv (n := 3) (m2 := 175) (ci := 7) (a := 11) (bs := [.ref (jx_big + w), .ref gv, .ref t]) (r := [.ref 10]) (js_cls cl_c11 (by decide)) (show jw_find jw_cvT 9 58 = some (3, [(7, 175)]) by decide +kernel) (by decide) rfl rfl rfl) jm_175 ⟨Nat.le_of_ble_eq_true rfl, by decide⟩ c1 ?_
      refine jr_1 jm_158 (show jw_cd cd_158 74 = some (.putfield 24) by decide +kernel) (cp_10 (x := fl) (show jw_fld 9 24 6 = some 2 by decide +kernel) (show jw_fm 9 6 2 = some false by decide +kernel)) ?_
      refine jr_1 jm_158 (show jw_cd cd_158 77 = some (.aload_n 0) by decide +kernel) rfl ?_
      refine jr_1 jm_158 (show jw_cd cd_158 78 = some (.getfield 24) by decide +kernel) (cg_10 (e := fl) (su_eq _ _ _ _) (show jw_fld 9 24 6 = some 2 by decide +kernel)) ?_
      refine jr_1 jm_158 (show jw_cd cd_158 81 = some (.ifCond .eq 8) by decide +kernel) (mz_t (q := .eq) (a := fl) (t := 89) (by show fl = 0; omega) ⟨by omega, by omega⟩ (by decide) (by decide)) ?_
      refine jr_1 jm_158 (show jw_cd cd_158 89 = some (.aload_n 0) by decide +kernel) rfl ?_
      refine jr_1 jm_158 (show jw_cd cd_158 90 = some (.getfield 20) by decide +kernel) (cgr_10_1 (show jw_fld 9 20 6 = some 1 by decide +kernel)) ?_
      refine jr_1 jm_158 (show jw_cd cd_158 93 = some (.aload 5) by decide +kernel) rfl ?_
      refine jr_1 jm_158 (show jw_cd cd_158 95 = some (.getfield 46) by decide +kernel) (js_getf (cl_old hl ⟨by omega, oS⟩) (jbg (by omega)) (show jw_fld 9 46 13 = some 0 by decide +kernel) rfl) ?_
      refine jr_1 jm_158 (show jw_cd cd_158 98 = some (.aload_n 3) by decide +kernel) rfl ?_
      refine jr_1 jm_158 (show jw_cd cd_158 99 = some (.aload 5) by decide +kernel) rfl ?_
      refine jr_1 jm_158 (show jw_cd cd_158 101 = some (.getfield 54) by decide +kernel) (js_getf (cl_old hl ⟨by omega, oS⟩) (jbg (by omega)) (show jw_fld 9 54 13 = some 1 by decide +kernel) rfl) ?_
      refine jr_c jm_158 (show jw_cd cd_158 104 = some (.invokevirtual 61) by decide +kernel) (ccv (n := 3) (m2 := 180) (ci := 7) (a := 11) (bs := [.ref (jx_big + w), .ref gv, .ref t]) (r := []) (js_cls cl_c11 (by decide)) (show jw_find jw_cvT 9 61 = some (3, [(7, 180)]) by decide +kernel) (by decide) rfl rfl rfl) jm_180 ⟨Nat.le_of_ble_eq_true rfl, by decide⟩ c2 ?_
      refine jr_1 jm_158 (F2 := (108, [some (.ref 10), some (.ref qy), some (.ref v0), some (.ref c), some (.int (Int32.ofInt (((i : Nat) : Int)))), some (.ref sg)], [], (cl_mk h' (su κ 10 (0) (fl))))) (show jw_cd cd_158 107 = some (.astore_n 3) by decide +kernel) rfl ?_
      refine jr_1 jm_158 (F2 := (111, [some (.ref 10), some (.ref qy), some (.ref v0), some (.ref c), some (.int (Int32.ofInt (((i : Nat) : Int) + 1))), some (.ref sg)], [], (cl_mk h' (su κ 10 (0) (fl))))) (show jw_cd cd_158 108 = some (.iinc 4 1) by decide +kernel) (mt_inc (a := ((i : Nat) : Int)) (c := ((i : Nat) : Int) + 1) rfl (by omega) rfl) ?_
      refine jr_1 jm_158 (show jw_cd cd_158 111 = some (.goto (-101)) by decide +kernel) (ju_go (t := 10) (by decide)) ?_
      exact r1
theorem jc_ans {β : Bool} {d : Nat} {h : jx_H} {κ : mS} (hl : 50 ≤ h.length) {X : Nat → Prop} {qy gv : Nat} {L : List sT} {v : vT} (hP : ∀ st ∈ L, sgP st) (hx : ∀ c, h.length ≤ c → ¬ X c) (hlen : h.length + rnC L v + 20 < 2700000000) (hq : qyR h X qy L) (hv : vR h X gv v) (hp : prP v) : ∃ (h' : jx_H) (κ' : mS) (c : Nat), jx_r (jz β) jw_M (d + 28) 158 (0, [some (.ref 10), some (.ref qy), some (.ref gv), none, none, none], [], (cl_mk h κ)) (cl_mk h' κ', .inl (some (.ref (c)))) ∧ vR h' X c (runS L v).2 ∧ κ' 10 0 = (runS L v).1 ∧ mEq [10] κ κ' ∧ (∀ (c : Nat) (y : jx_C), h[c]? = some y → h'[c]? = some y) ∧ (h.length ≤ h'.length ∧ h'.length ≤ h.length + rnC L v) ∧ cvol h' ≤ cvol h + rnW L v := by
  obtain ⟨zq, la, ea, cap, fq, oQ, hal, hsg⟩ := hq
  obtain ⟨h2, κ2, c2, r1, r2, r3, r4, r5, r6, r7⟩ := jc_ansL (β := β) (d := d) (v0 := gv) hP L 0 gv v h (su κ 10 0 0) none rfl (Nat.zero_le _) hl hx hlen ⟨⟨zq, oQ⟩, hal, hsg⟩ hv hp (su_eq _ _ _ _)
  refine ⟨h2, κ2, c2, ?_, r2, r3, mEq_trans (mEq_su (mEq_refl _ _) List.mem_cons_self) r4, r5, r6, r7⟩
  refine jr_1 jm_158 (show jw_cd cd_158 0 = some (.aload_n 0) by decide +kernel) rfl ?_
  refine jr_1 jm_158 (show jw_cd cd_158 1 = some (.iconst 0) by decide +kernel) rfl ?_
  refine jr_1 jm_158 (show jw_cd cd_158 2 = some (.putfield 24) by decide +kernel) (cp_10 (x := 0) (show jw_fld 9 24 6 = some 2 by decide +kernel) (show jw_fm 9 6 2 = some false by decide +kernel)) ?_
  refine jr_1 jm_158 (show jw_cd cd_158 5 = some (.aload_n 2) by decide +kernel) rfl ?_
  refine jr_1 jm_158 (F2 := (7, [some (.ref 10), some (.ref qy), some (.ref gv), some (.ref gv), none, none], [], (cl_mk h (su κ 10 (0) (0))))) (show jw_cd cd_158 6 = some (.astore_n 3) by decide +kernel) rfl ?_
  refine jr_1 jm_158 (show jw_cd cd_158 7 = some (.iconst 0) by decide +kernel) rfl ?_
  refine jr_1 jm_158 (F2 := (10, [some (.ref 10), some (.ref qy), some (.ref gv), some (.ref gv), some (.int (Int32.ofInt (0))), none], [], (cl_mk h (su κ 10 (0) (0))))) (show jw_cd cd_158 8 = some (.istore 4) by decide +kernel) rfl ?_
  exact r1
