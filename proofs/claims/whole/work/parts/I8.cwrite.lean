/-! ===== the class: write (printed by program: gen100.py) ===== -/
theorem jm_13 : jw_M 13 = some (8, 3, (none, false), jw_cd cd_13, fun _ _ => none) := rfl
theorem jm_55 : jw_M 55 = some (8, 4, (none, false), jw_cd cd_55, fun _ _ => none) := rfl
/-- the row of the resultText is none of a value's cells -/
def Xr (r : Nat) : Nat → Prop := fun c => c = r
def wOB (h : jx_H) (r a t ka ia kc ic sz : Nat) (i1 i2 : Int) (f g : Nat → Value) : Prop := (zc (Xr r) a ∧ zc (Xr r) ka ∧ zc (Xr r) ia) ∧ h[a]? = some (.inr (5, [.int (Int32.ofInt (i1)), .int (Int32.ofInt (i2)), .ref t, .ref ka, .ref ia, .int (Int32.ofInt (((sz : Nat) : Int)))])) ∧ h[ka]? = some (.inl (4, kc, g)) ∧ h[ia]? = some (.inl (4, ic, f)) ∧ (sz ≤ ic ∧ ic ≤ 1000000) ∧ (i1 = 6 → sz ≤ kc ∧ kc ≤ 1000000)
theorem sbF_q {h : jx_H} {κ : mS} {r cap : Nat} {h' : jx_H} {κ' : mS} {r' cap' : Nat} (hF : sbF h κ r cap h' κ' r' cap') : ∀ c y, zc (Xr r) c → h[c]? = some y → zc (Xr r') c ∧ h'[c]? = some y := fun c y z w => ⟨⟨z.1, z.2.1, (hF.2.2.1 c y z.2.2 w).1⟩, (hF.2.2.1 c y z.2.2 w).2⟩
theorem wOB_fr {h : jx_H} {κ : mS} {r cap : Nat} {h' : jx_H} {κ' : mS} {r' cap' : Nat} {a t ka ia kc ic sz : Nat} {i1 i2 : Int} {f g : Nat → Value} (hF : sbF h κ r cap h' κ' r' cap') (ho : wOB h r a t ka ia kc ic sz i1 i2 f g) : wOB h' r' a t ka ia kc ic sz i1 i2 f g := by
  obtain ⟨⟨z1, z2, z3⟩, oA, oK, oI, o1, o2⟩ := ho
  have q1 := sbF_q hF a _ z1 oA
  have q2 := sbF_q hF ka _ z2 oK
  have q3 := sbF_q hF ia _ z3 oI
  exact ⟨⟨q1.1, q2.1, q3.1⟩, q1.2, q2.2, q3.2, o1, o2⟩
theorem vN_wOB {h : jx_H} {r a : Nat} {i : tI} {F : FT} (hv : vN h (Xr r) a i F) : ∃ (t ka ia kc ic : Nat) (f g : Nat → Value), wOB h r a t ka ia kc ic (fsz F) i.1 i.2.1 f g ∧ strR h (Xr r) t i.2.2.1 ∧ vF h (Xr r) F (decide (i.1 = 6)) f g 0 := by
  obtain ⟨z1, t, ka, ia, kc, ic, f, g, z2, z3, oA, oS, oK, oI, o1, o2, o3⟩ := hv
  exact ⟨t, ka, ia, kc, ic, f, g, ⟨⟨z1, z2, z3⟩, oA, oK, oI, o1, fun e => by omega⟩, oS, o3⟩
theorem js_wi1 {β : Bool} {d : Nat} {h : jx_H} {κ : mS} (hl : 50 ≤ h.length) {r cap : Nat} {fb : Nat → Value} {l : List Int} (hs : sbR h κ r cap fb l) (hb32 : h.length + sbP cap < 2999999999) {a t ka ia kc ic sz j k : Nat} {i1 i2 : Int} {f g : Nat → Value} (ho : wOB h r a t ka ia kc ic sz i1 i2 f g) (hj : j < sz) (hk : k < 8) (hm : l.length < 250) : ∃ (h' : jx_H) (κ' : mS) (r' cap' : Nat) (fb' : Nat → Value), (∀ res, jx_r (jz β) jw_M (d + 5) 55 (27, [some (.ref a), some (.ref 13), some (.int (Int32.ofInt (((k : Nat) : Int)))), some (.int (Int32.ofInt (((j : Nat) : Int))))], [], (cl_mk h' κ')) res → jx_r (jz β) jw_M (d + 5) 55 (2, [some (.ref a), some (.ref 13), some (.int (Int32.ofInt (((k : Nat) : Int)))), some (.int (Int32.ofInt (((j : Nat) : Int))))], [], (cl_mk h κ)) res) ∧ sbR h' κ' r' cap' fb' (l ++ (bif decide (j = 0) then [] else [44])) ∧ sbF h κ r cap h' κ' r' cap' := by
  obtain ⟨⟨z1, z2, z3⟩, oA, oK, oI, o1, o2⟩ := id ho
  have z11 := z1.1
  have z12 := z1.2.1
  have z21 := z2.1
  have z22 := z2.2.1
  have z31 := z3.1
  have z32 := z3.2.1
  by_cases hj0 : j = 0
  · refine ⟨h, κ, r, cap, fb, fun res kk => ?_, by rw [decide_eq_true hj0]; show sbR h κ r cap fb (l ++ []); rw [List.append_nil]; exact hs, sbF_refl⟩
    refine jr_1 jm_55 (show jw_cd cd_55 2 = some (.iload_n 3) by decide +kernel) rfl ?_
    refine jr_1 jm_55 (show jw_cd cd_55 3 = some (.aload_n 0) by decide +kernel) rfl ?_
    refine jr_1 jm_55 (show jw_cd cd_55 4 = some (.getfield 29) by decide +kernel) (js_getf (cl_old hl ⟨by omega, oA⟩) (jbg (by omega)) (show jw_fld 8 29 5 = some 5 by decide +kernel) rfl) ?_
    refine jr_1 jm_55 (show jw_cd cd_55 7 = some (.if_icmp .ge 69) by decide +kernel) (mb_f (q := .ge) (a := ((j : Nat) : Int)) (b := ((sz : Nat) : Int)) (by show ¬ (((sz : Nat) : Int) ≤ ((j : Nat) : Int)); omega) ⟨by omega, by omega⟩ ⟨by omega, by omega⟩ (by decide)) ?_
    refine jr_1 jm_55 (show jw_cd cd_55 10 = some (.iload_n 2) by decide +kernel) rfl ?_
    refine jr_1 jm_55 (show jw_cd cd_55 11 = some (.bipush 8) by decide +kernel) (mt_bi (by decide)) ?_
    refine jr_1 jm_55 (show jw_cd cd_55 13 = some (.if_icmp .ge 63) by decide +kernel) (mb_f (q := .ge) (a := ((k : Nat) : Int)) (b := 8) (by show ¬ (8 ≤ ((k : Nat) : Int)); omega) ⟨by omega, by omega⟩ ⟨by omega, by omega⟩ (by decide)) ?_
    refine jr_1 jm_55 (show jw_cd cd_55 16 = some (.iload_n 3) by decide +kernel) rfl ?_
    refine jr_1 jm_55 (show jw_cd cd_55 17 = some (.ifCond .le 10) by decide +kernel) (mz_t (q := .le) (a := ((j : Nat) : Int)) (t := 27) (by show ((j : Nat) : Int) ≤ 0; omega) ⟨by omega, by omega⟩ (by decide) (by decide)) ?_
    exact kk
  · obtain ⟨h', κ', r', cap', fb', hr, hc, hF⟩ := js_app (β := β) (d := d) hl rfl (by omega) hs (x := 44) (by decide) (by omega)
    refine ⟨h', κ', r', cap', fb', fun res kk => ?_, by rw [decide_eq_false hj0]; exact hc, hF⟩
    refine jr_1 jm_55 (show jw_cd cd_55 2 = some (.iload_n 3) by decide +kernel) rfl ?_
    refine jr_1 jm_55 (show jw_cd cd_55 3 = some (.aload_n 0) by decide +kernel) rfl ?_
    refine jr_1 jm_55 (show jw_cd cd_55 4 = some (.getfield 29) by decide +kernel) (js_getf (cl_old hl ⟨by omega, oA⟩) (jbg (by omega)) (show jw_fld 8 29 5 = some 5 by decide +kernel) rfl) ?_
    refine jr_1 jm_55 (show jw_cd cd_55 7 = some (.if_icmp .ge 69) by decide +kernel) (mb_f (q := .ge) (a := ((j : Nat) : Int)) (b := ((sz : Nat) : Int)) (by show ¬ (((sz : Nat) : Int) ≤ ((j : Nat) : Int)); omega) ⟨by omega, by omega⟩ ⟨by omega, by omega⟩ (by decide)) ?_
    refine jr_1 jm_55 (show jw_cd cd_55 10 = some (.iload_n 2) by decide +kernel) rfl ?_
    refine jr_1 jm_55 (show jw_cd cd_55 11 = some (.bipush 8) by decide +kernel) (mt_bi (by decide)) ?_
    refine jr_1 jm_55 (show jw_cd cd_55 13 = some (.if_icmp .ge 63) by decide +kernel) (mb_f (q := .ge) (a := ((k : Nat) : Int)) (b := 8) (by show ¬ (8 ≤ ((k : Nat) : Int)); omega) ⟨by omega, by omega⟩ ⟨by omega, by omega⟩ (by decide)) ?_
    refine jr_1 jm_55 (show jw_cd cd_55 16 = some (.iload_n 3) by decide +kernel) rfl ?_
    refine jr_1 jm_55 (show jw_cd cd_55 17 = some (.ifCond .le 10) by decide +kernel) (mz_f (q := .le) (a := ((j : Nat) : Int)) (by show ¬ (((j : Nat) : Int) ≤ 0); omega) ⟨by omega, by omega⟩ (by decide)) ?_
    refine jr_1 jm_55 (show jw_cd cd_55 20 = some (.aload_n 1) by decide +kernel) rfl ?_
    refine jr_1 jm_55 (show jw_cd cd_55 21 = some (.bipush 44) by decide +kernel) (mt_bi (by decide)) ?_
    refine jr_c jm_55 (show jw_cd cd_55 23 = some (.invokevirtual 95) by decide +kernel) (ccv (n := 1) (m2 := 14) (ci := 2) (a := 13) (bs := [.int (Int32.ofInt (44))]) (r := []) (js_cls cl_c13 (by decide)) (show jw_find jw_cvT 8 95 = some (1, [(2, 14)]) by decide +kernel) (by decide) rfl rfl rfl) jm_14 ⟨Nat.le_of_ble_eq_true rfl, by decide⟩ hr ?_
    refine jr_1 jm_55 (show jw_cd cd_55 26 = some (.pop) by decide +kernel) rfl ?_
    exact kk
theorem js_wi2 {β : Bool} {d : Nat} {h : jx_H} {κ : mS} (hl : 50 ≤ h.length) {r cap : Nat} {fb : Nat → Value} {l : List Int} (hs : sbR h κ r cap fb l) (hb32 : h.length + sbP cap < 2999999999) {a t ka ia kc ic sz j k : Nat} {i1 i2 : Int} {f g : Nat → Value} (ho : wOB h r a t ka ia kc ic sz i1 i2 f g) (hj : j < sz) (hi1 : 0 ≤ i1 ∧ i1 ≤ 6) {s : List Int} (hs7 : tx s) (hg : i1 = 6 → ∃ ak, g j = .ref ak ∧ vNd h (Xr r) ak (4, 0, s, []) 0 (fun _ _ => True)) (hm : i1 = 6 → l.length + s.length < 250) : ∃ (h' : jx_H) (κ' : mS) (r' cap' : Nat) (fb' : Nat → Value), (∀ res, jx_r (jz β) jw_M (d + 5) 55 (57, [some (.ref a), some (.ref 13), some (.int (Int32.ofInt (((k : Nat) : Int)))), some (.int (Int32.ofInt (((j : Nat) : Int))))], [], (cl_mk h' κ')) res → jx_r (jz β) jw_M (d + 5) 55 (27, [some (.ref a), some (.ref 13), some (.int (Int32.ofInt (((k : Nat) : Int)))), some (.int (Int32.ofInt (((j : Nat) : Int))))], [], (cl_mk h κ)) res) ∧ sbR h' κ' r' cap' fb' (l ++ (bif decide (i1 = 6) then s ++ [58] else [])) ∧ sbF h κ r cap h' κ' r' cap' := by
  obtain ⟨⟨z1, z2, z3⟩, oA, oK, oI, o1, o2⟩ := id ho
  have z11 := z1.1
  have z12 := z1.2.1
  have z21 := z2.1
  have z22 := z2.2.1
  have z31 := z3.1
  have z32 := z3.2.1
  by_cases hi6 : ¬ i1 = 6
  · refine ⟨h, κ, r, cap, fb, fun res kk => ?_, by rw [decide_eq_false hi6]; show sbR h κ r cap fb (l ++ []); rw [List.append_nil]; exact hs, sbF_refl⟩
    refine jr_1 jm_55 (show jw_cd cd_55 27 = some (.aload_n 0) by decide +kernel) rfl ?_
    refine jr_1 jm_55 (show jw_cd cd_55 28 = some (.getfield 9) by decide +kernel) (js_getf (cl_old hl ⟨by omega, oA⟩) (jbg (by omega)) (show jw_fld 8 9 5 = some 0 by decide +kernel) rfl) ?_
    refine jr_1 jm_55 (show jw_cd cd_55 31 = some (.bipush 6) by decide +kernel) (mt_bi (by decide)) ?_
    refine jr_1 jm_55 (show jw_cd cd_55 33 = some (.if_icmp .ne 24) by decide +kernel) (mb_t (q := .ne) (a := i1) (b := 6) (t := 57) (by show ¬ (i1 = 6); omega) ⟨by omega, by omega⟩ ⟨by omega, by omega⟩ (by decide) (by decide)) ?_
    exact kk
  · have hi6 : i1 = 6 := by omega
    obtain ⟨ak, hg, y1, tk, kka, kia, kkc, kic, kf, kg, y2, y3, kA, kS, -⟩ := hg hi6
    have y11 := y1.1
    have y12 := y1.2.1
    have o2 := o2 hi6
    have hm := hm hi6
    obtain ⟨h1, κ1, r1, cap1, fb1, hr, hc1, hF1⟩ := js_apS (β := β) (d := d) hl rfl (by omega) hs (X := Xr r) rfl kS (by have := hs7.1; show s.length ≤ 12; omega) (fun c hc => by have := hs7.2 c hc; omega) (by show l.length + s.length ≤ 260; omega)
    have l1 := hF1.2.1
    have b1 := hF1.2.2.2.1
    obtain ⟨h2, κ2, r2, cap2, fb2, hr2, hc2, hF2⟩ := js_app (β := β) (d := d) (by omega) rfl (by omega) hc1 (x := 58) (by decide) (by rw [List.length_append]; show l.length + s.length < 260; omega)
    refine ⟨h2, κ2, r2, cap2, fb2, fun res kk => ?_, by rw [decide_eq_true hi6]; rw [List.append_assoc] at hc2; exact hc2, sbF_tr hF1 hF2⟩
    refine jr_1 jm_55 (show jw_cd cd_55 27 = some (.aload_n 0) by decide +kernel) rfl ?_
    refine jr_1 jm_55 (show jw_cd cd_55 28 = some (.getfield 9) by decide +kernel) (js_getf (cl_old hl ⟨by omega, oA⟩) (jbg (by omega)) (show jw_fld 8 9 5 = some 0 by decide +kernel) rfl) ?_
    refine jr_1 jm_55 (show jw_cd cd_55 31 = some (.bipush 6) by decide +kernel) (mt_bi (by decide)) ?_
    refine jr_1 jm_55 (show jw_cd cd_55 33 = some (.if_icmp .ne 24) by decide +kernel) (mb_f (q := .ne) (a := i1) (b := 6) (by show ¬ (¬ (i1 = 6)); omega) ⟨by omega, by omega⟩ ⟨by omega, by omega⟩ (by decide)) ?_
    refine jr_1 jm_55 (show jw_cd cd_55 36 = some (.aload_n 1) by decide +kernel) rfl ?_
    refine jr_1 jm_55 (show jw_cd cd_55 37 = some (.aload_n 0) by decide +kernel) rfl ?_
    refine jr_1 jm_55 (show jw_cd cd_55 38 = some (.getfield 22) by decide +kernel) (js_getf (cl_old hl ⟨by omega, oA⟩) (jbg (by omega)) (show jw_fld 8 22 5 = some 3 by decide +kernel) rfl) ?_
    refine jr_1 jm_55 (show jw_cd cd_55 41 = some (.iload_n 3) by decide +kernel) rfl ?_
    refine jr_1 jm_55 (show jw_cd cd_55 42 = some (.aaload) by decide +kernel) (cal_a (e := .ref ak) (jx_ar_h (cl_old hl ⟨by omega, oK⟩) (jbg (by omega))) (Or.inl rfl) (by omega) (by omega) (by omega) (by rw [Int.toNat_natCast]; exact hg)) ?_
    refine jr_1 jm_55 (show jw_cd cd_55 43 = some (.getfield 18) by decide +kernel) (js_getf (cl_old hl ⟨by omega, kA⟩) (jbg (by omega)) (show jw_fld 8 18 5 = some 2 by decide +kernel) rfl) ?_
    refine jr_c jm_55 (show jw_cd cd_55 46 = some (.invokevirtual 104) by decide +kernel) (ccv (n := 1) (m2 := 46) (ci := 2) (a := 13) (bs := [.ref tk]) (r := []) (js_cls cl_c13 (by decide)) (show jw_find jw_cvT 8 104 = some (1, [(2, 46)]) by decide +kernel) (by decide) rfl rfl rfl) jm_46 ⟨Nat.le_of_ble_eq_true rfl, by decide⟩ hr ?_
    refine jr_1 jm_55 (show jw_cd cd_55 49 = some (.pop) by decide +kernel) rfl ?_
    refine jr_1 jm_55 (show jw_cd cd_55 50 = some (.aload_n 1) by decide +kernel) rfl ?_
    refine jr_1 jm_55 (show jw_cd cd_55 51 = some (.bipush 58) by decide +kernel) (mt_bi (by decide)) ?_
    refine jr_c jm_55 (show jw_cd cd_55 53 = some (.invokevirtual 95) by decide +kernel) (ccv (n := 1) (m2 := 14) (ci := 2) (a := 13) (bs := [.int (Int32.ofInt (58))]) (r := []) (js_cls cl_c13 (by decide)) (show jw_find jw_cvT 8 95 = some (1, [(2, 14)]) by decide +kernel) (by decide) rfl rfl rfl) jm_14 ⟨Nat.le_of_ble_eq_true rfl, by decide⟩ hr2 ?_
    refine jr_1 jm_55 (show jw_cd cd_55 56 = some (.pop) by decide +kernel) rfl ?_
    exact kk
def wrL (β : Bool) (F : FT) : Prop := ∀ (m D : Nat) (h : jx_H) (κ : mS) (r cap : Nat) (fb : Nat → Value) (l : List Int) (a t ka ia kc ic sz j k : Nat) (i1 i2 : Int) (f g : Nat → Value), fdp F ≤ m → 2 * m + 5 ≤ D → 50 ≤ h.length → h.length + sbP cap < 2999999999 → sbR h κ r cap fb l → wOB h r a t ka ia kc ic sz i1 i2 f g → vF h (Xr r) F (decide (i1 = 6)) f g j → fwf F → j + fsz F = sz → k + fdp F ≤ 8 → l.length + (wF (decide (i1 = 6)) (decide (j = 0)) F).length < 240 → 0 ≤ i1 ∧ i1 ≤ 6 → ∃ (h' : jx_H) (κ' : mS) (r' cap' : Nat) (fb' : Nat → Value), jx_r (jz β) jw_M (D) 55 (2, [some (.ref a), some (.ref 13), some (.int (Int32.ofInt (((k : Nat) : Int)))), some (.int (Int32.ofInt (((j : Nat) : Int))))], [], (cl_mk h κ)) (cl_mk h' (κ'), .inl none) ∧ sbR h' κ' r' cap' fb' (l ++ wF (decide (i1 = 6)) (decide (j = 0)) F) ∧ sbF h κ r cap h' κ' r' cap' 
theorem js_wrV {β : Bool} {d : Nat} {F : FT} (hP : wrL β F) {h : jx_H} {κ : mS} (hl : 50 ≤ h.length) {r cap : Nat} {fb : Nat → Value} {l : List Int} (hs : sbR h κ r cap fb l) (hb32 : h.length + sbP cap < 2999999999) {a m k : Nat} {i : tI} (hv : vN h (Xr r) a i F) (hi : iok i) (hw : fwf F) (hm : fdp F ≤ m) (hd : 2 * m ≤ d) (hk8 : k + fdp F ≤ 8) (hle : l.length + (wV i F).length < 240) : ∃ (h' : jx_H) (κ' : mS) (r' cap' : Nat) (fb' : Nat → Value), jx_r (jz β) jw_M (d + 6) 13 (0, [some (.ref a), some (.ref 13), some (.int (Int32.ofInt (((k : Nat) : Int))))], [], (cl_mk h κ)) (cl_mk h' (κ'), .inl none) ∧ sbR h' κ' r' cap' fb' (l ++ wV i F) ∧ sbF h κ r cap h' κ' r' cap' := by
  obtain ⟨t, ka, ia, kc, ic, f, g, ho, hS, hF⟩ := vN_wOB hv
  obtain ⟨⟨z1, z2, z3⟩, oA, oK, oI, o1, o2⟩ := id ho
  have z11 := z1.1
  have z12 := z1.2.1
  have z21 := z2.1
  have z22 := z2.2.1
  have z31 := z3.1
  have z32 := z3.2.1
  obtain ⟨i0, i6, in1, it, ik⟩ := hi
  by_cases hk : i.1 = 1
  · have ew : wV i F = [102] := by
      unfold wV wL
      simp [hk]
    rw [ew] at hle ⊢
    obtain ⟨h1, κ1, r1, cap1, fb1, hr1, hc1, hF1⟩ := js_app (β := β) (d := d + 1) hl rfl (by omega) hs (x := 102) (by decide) (by omega)
    refine ⟨h1, κ1, r1, cap1, fb1, ?_, hc1, hF1⟩
    refine jr_1 jm_13 (show jw_cd cd_13 0 = some (.aload_n 0) by decide +kernel) rfl ?_
    refine jr_1 jm_13 (show jw_cd cd_13 1 = some (.getfield 9) by decide +kernel) (js_getf (cl_old hl ⟨by omega, oA⟩) (jbg (by omega)) (show jw_fld 8 9 5 = some 0 by decide +kernel) rfl) ?_
    refine jr_1 jm_13 (show jw_cd cd_13 4 = some (.tableswitch 144 1 6 #[40, 50, 60, 72, 98, 121]) by decide +kernel) (mt_ts (t := 44) (off := 40) ⟨by omega, by omega⟩ (by omega) (by rw [hk]; rfl) (by decide)) ?_
    refine jr_1 jm_13 (show jw_cd cd_13 44 = some (.aload_n 1) by decide +kernel) rfl ?_
    refine jr_1 jm_13 (show jw_cd cd_13 45 = some (.bipush 102) by decide +kernel) (mt_bi (by decide)) ?_
    refine jr_c jm_13 (show jw_cd cd_13 47 = some (.invokevirtual 95) by decide +kernel) (ccv (n := 1) (m2 := 14) (ci := 2) (a := 13) (bs := [.int (Int32.ofInt (102))]) (r := []) (js_cls cl_c13 (by decide)) (show jw_find jw_cvT 8 95 = some (1, [(2, 14)]) by decide +kernel) (by decide) rfl rfl rfl) jm_14 ⟨Nat.le_of_ble_eq_true rfl, by decide⟩ hr1 ?_
    refine jr_1 jm_13 (show jw_cd cd_13 50 = some (.pop) by decide +kernel) rfl ?_
    refine jr_1 jm_13 (show jw_cd cd_13 51 = some (.goto 104) by decide +kernel) (ju_go (t := 155) (by decide)) ?_
    exact jr_v jm_13 (show jw_cd cd_13 155 = some (.return_) by decide +kernel) rfl
  by_cases hk : i.1 = 2
  · have ew : wV i F = [116] := by
      unfold wV wL
      simp [hk]
    rw [ew] at hle ⊢
    obtain ⟨h1, κ1, r1, cap1, fb1, hr1, hc1, hF1⟩ := js_app (β := β) (d := d + 1) hl rfl (by omega) hs (x := 116) (by decide) (by omega)
    refine ⟨h1, κ1, r1, cap1, fb1, ?_, hc1, hF1⟩
    refine jr_1 jm_13 (show jw_cd cd_13 0 = some (.aload_n 0) by decide +kernel) rfl ?_
    refine jr_1 jm_13 (show jw_cd cd_13 1 = some (.getfield 9) by decide +kernel) (js_getf (cl_old hl ⟨by omega, oA⟩) (jbg (by omega)) (show jw_fld 8 9 5 = some 0 by decide +kernel) rfl) ?_
    refine jr_1 jm_13 (show jw_cd cd_13 4 = some (.tableswitch 144 1 6 #[40, 50, 60, 72, 98, 121]) by decide +kernel) (mt_ts (t := 54) (off := 50) ⟨by omega, by omega⟩ (by omega) (by rw [hk]; rfl) (by decide)) ?_
    refine jr_1 jm_13 (show jw_cd cd_13 54 = some (.aload_n 1) by decide +kernel) rfl ?_
    refine jr_1 jm_13 (show jw_cd cd_13 55 = some (.bipush 116) by decide +kernel) (mt_bi (by decide)) ?_
    refine jr_c jm_13 (show jw_cd cd_13 57 = some (.invokevirtual 95) by decide +kernel) (ccv (n := 1) (m2 := 14) (ci := 2) (a := 13) (bs := [.int (Int32.ofInt (116))]) (r := []) (js_cls cl_c13 (by decide)) (show jw_find jw_cvT 8 95 = some (1, [(2, 14)]) by decide +kernel) (by decide) rfl rfl rfl) jm_14 ⟨Nat.le_of_ble_eq_true rfl, by decide⟩ hr1 ?_
    refine jr_1 jm_13 (show jw_cd cd_13 60 = some (.pop) by decide +kernel) rfl ?_
    refine jr_1 jm_13 (show jw_cd cd_13 61 = some (.goto 94) by decide +kernel) (ju_go (t := 155) (by decide)) ?_
    exact jr_v jm_13 (show jw_cd cd_13 155 = some (.return_) by decide +kernel) rfl
  by_cases hk : i.1 = 3
  · have ew : wV i F = dec i.2.1 := by
      unfold wV wL
      simp [hk]
    rw [ew] at hle ⊢
    obtain ⟨h1, κ1, r1, cap1, fb1, hr1, hc1, hF1⟩ := js_apI (β := β) (d := d + 1) hl rfl (by omega) hs in1 (by omega)
    refine ⟨h1, κ1, r1, cap1, fb1, ?_, hc1, hF1⟩
    refine jr_1 jm_13 (show jw_cd cd_13 0 = some (.aload_n 0) by decide +kernel) rfl ?_
    refine jr_1 jm_13 (show jw_cd cd_13 1 = some (.getfield 9) by decide +kernel) (js_getf (cl_old hl ⟨by omega, oA⟩) (jbg (by omega)) (show jw_fld 8 9 5 = some 0 by decide +kernel) rfl) ?_
    refine jr_1 jm_13 (show jw_cd cd_13 4 = some (.tableswitch 144 1 6 #[40, 50, 60, 72, 98, 121]) by decide +kernel) (mt_ts (t := 64) (off := 60) ⟨by omega, by omega⟩ (by omega) (by rw [hk]; rfl) (by decide)) ?_
    refine jr_1 jm_13 (show jw_cd cd_13 64 = some (.aload_n 1) by decide +kernel) rfl ?_
    refine jr_1 jm_13 (show jw_cd cd_13 65 = some (.aload_n 0) by decide +kernel) rfl ?_
    refine jr_1 jm_13 (show jw_cd cd_13 66 = some (.getfield 15) by decide +kernel) (js_getf (cl_old hl ⟨by omega, oA⟩) (jbg (by omega)) (show jw_fld 8 15 5 = some 1 by decide +kernel) rfl) ?_
    refine jr_c jm_13 (show jw_cd cd_13 69 = some (.invokevirtual 101) by decide +kernel) (ccv (n := 1) (m2 := 37) (ci := 2) (a := 13) (bs := [.int (Int32.ofInt (i.2.1))]) (r := []) (js_cls cl_c13 (by decide)) (show jw_find jw_cvT 8 101 = some (1, [(2, 37)]) by decide +kernel) (by decide) rfl rfl rfl) jm_37 ⟨Nat.le_of_ble_eq_true rfl, by decide⟩ hr1 ?_
    refine jr_1 jm_13 (show jw_cd cd_13 72 = some (.pop) by decide +kernel) rfl ?_
    refine jr_1 jm_13 (show jw_cd cd_13 73 = some (.goto 82) by decide +kernel) (ju_go (t := 155) (by decide)) ?_
    exact jr_v jm_13 (show jw_cd cd_13 155 = some (.return_) by decide +kernel) rfl
  by_cases hk : i.1 = 4
  · have ew : wV i F = [39] ++ (i.2.2.1 ++ [39]) := by
      unfold wV wL
      simp [hk]
    rw [ew] at hle ⊢
    rw [List.length_append, List.length_append] at hle
    have hle : l.length + (1 + (i.2.2.1.length + 1)) < 240 := hle
    obtain ⟨h1, κ1, r1, cap1, fb1, hr1, hc1, hF1⟩ := js_app (β := β) (d := d + 1) hl rfl (by omega) hs (x := 39) (by decide) (by omega)
    have oA1 := (wOB_fr hF1 ho).2.1
    have l1 : 50 ≤ h1.length := by have := hF1.2.1; omega
    have b1 := hF1.2.2.2.1
    obtain ⟨h2, κ2, r2, cap2, fb2, hr2, hc2, hF2⟩ := js_apS (β := β) (d := d + 1) l1 rfl (by omega) hc1 (X := Xr r1) rfl (strR_fr (sbF_q hF1) hS) (by have := it.1; omega) (fun c hc => by have := it.2 c hc; omega) (by rw [List.length_append]; show l.length + 1 + _ ≤ 260; omega)
    have l2 : 50 ≤ h2.length := by have := hF2.2.1; omega
    have b2 := hF2.2.2.2.1
    obtain ⟨h3, κ3, r3, cap3, fb3, hr3, hc3, hF3⟩ := js_app (β := β) (d := d + 1) l2 rfl (by omega) hc2 (x := 39) (by decide) (by rw [List.length_append, List.length_append]; show l.length + 1 + _ < 260; omega)
    refine ⟨h3, κ3, r3, cap3, fb3, ?_, by rw [List.append_assoc, List.append_assoc] at hc3; exact hc3, sbF_tr hF1 (sbF_tr hF2 hF3)⟩
    refine jr_1 jm_13 (show jw_cd cd_13 0 = some (.aload_n 0) by decide +kernel) rfl ?_
    refine jr_1 jm_13 (show jw_cd cd_13 1 = some (.getfield 9) by decide +kernel) (js_getf (cl_old hl ⟨by omega, oA⟩) (jbg (by omega)) (show jw_fld 8 9 5 = some 0 by decide +kernel) rfl) ?_
    refine jr_1 jm_13 (show jw_cd cd_13 4 = some (.tableswitch 144 1 6 #[40, 50, 60, 72, 98, 121]) by decide +kernel) (mt_ts (t := 76) (off := 72) ⟨by omega, by omega⟩ (by omega) (by rw [hk]; rfl) (by decide)) ?_
    refine jr_1 jm_13 (show jw_cd cd_13 76 = some (.aload_n 1) by decide +kernel) rfl ?_
    refine jr_1 jm_13 (show jw_cd cd_13 77 = some (.bipush 39) by decide +kernel) (mt_bi (by decide)) ?_
    refine jr_c jm_13 (show jw_cd cd_13 79 = some (.invokevirtual 95) by decide +kernel) (ccv (n := 1) (m2 := 14) (ci := 2) (a := 13) (bs := [.int (Int32.ofInt (39))]) (r := []) (js_cls cl_c13 (by decide)) (show jw_find jw_cvT 8 95 = some (1, [(2, 14)]) by decide +kernel) (by decide) rfl rfl rfl) jm_14 ⟨Nat.le_of_ble_eq_true rfl, by decide⟩ hr1 ?_
    refine jr_1 jm_13 (show jw_cd cd_13 82 = some (.pop) by decide +kernel) rfl ?_
    refine jr_1 jm_13 (show jw_cd cd_13 83 = some (.aload_n 1) by decide +kernel) rfl ?_
    refine jr_1 jm_13 (show jw_cd cd_13 84 = some (.aload_n 0) by decide +kernel) rfl ?_
    refine jr_1 jm_13 (show jw_cd cd_13 85 = some (.getfield 18) by decide +kernel) (js_getf (cl_old l1 ⟨by omega, oA1⟩) (jbg (by omega)) (show jw_fld 8 18 5 = some 2 by decide +kernel) rfl) ?_
    refine jr_c jm_13 (show jw_cd cd_13 88 = some (.invokevirtual 104) by decide +kernel) (ccv (n := 1) (m2 := 46) (ci := 2) (a := 13) (bs := [.ref t]) (r := []) (js_cls cl_c13 (by decide)) (show jw_find jw_cvT 8 104 = some (1, [(2, 46)]) by decide +kernel) (by decide) rfl rfl rfl) jm_46 ⟨Nat.le_of_ble_eq_true rfl, by decide⟩ hr2 ?_
    refine jr_1 jm_13 (show jw_cd cd_13 91 = some (.pop) by decide +kernel) rfl ?_
    refine jr_1 jm_13 (show jw_cd cd_13 92 = some (.aload_n 1) by decide +kernel) rfl ?_
    refine jr_1 jm_13 (show jw_cd cd_13 93 = some (.bipush 39) by decide +kernel) (mt_bi (by decide)) ?_
    refine jr_c jm_13 (show jw_cd cd_13 95 = some (.invokevirtual 95) by decide +kernel) (ccv (n := 1) (m2 := 14) (ci := 2) (a := 13) (bs := [.int (Int32.ofInt (39))]) (r := []) (js_cls cl_c13 (by decide)) (show jw_find jw_cvT 8 95 = some (1, [(2, 14)]) by decide +kernel) (by decide) rfl rfl rfl) jm_14 ⟨Nat.le_of_ble_eq_true rfl, by decide⟩ hr3 ?_
    refine jr_1 jm_13 (show jw_cd cd_13 98 = some (.pop) by decide +kernel) rfl ?_
    refine jr_1 jm_13 (show jw_cd cd_13 99 = some (.goto 56) by decide +kernel) (ju_go (t := 155) (by decide)) ?_
    exact jr_v jm_13 (show jw_cd cd_13 155 = some (.return_) by decide +kernel) rfl
  by_cases hk : i.1 = 5
  · have ew : wV i F = [91] ++ (wF (decide (i.1 = 6)) true F ++ [93]) := by
      unfold wV wL wC
      simp [hk]
    rw [ew] at hle ⊢
    rw [List.length_append, List.length_append] at hle
    have hle : l.length + (1 + ((wF (decide (i.1 = 6)) true F).length + 1)) < 240 := hle
    obtain ⟨h1, κ1, r1, cap1, fb1, hr1, hc1, hF1⟩ := js_app (β := β) (d := d + 1) hl rfl (by omega) hs (x := 91) (by decide) (by omega)
    have ho1 := wOB_fr hF1 ho
    have oA1 := ho1.2.1
    have l1 : 50 ≤ h1.length := by have := hF1.2.1; omega
    have b1 := hF1.2.2.2.1
    obtain ⟨h2, κ2, r2, cap2, fb2, hq2, hc2, hF2⟩ := hP m (d + 5) h1 κ1 r1 cap1 fb1 _ a t ka ia kc ic (fsz F) 0 k i.1 i.2.1 f g hm (by omega) l1 (by omega) hc1 ho1 (vF_fr (sbF_q hF1) F _ f g 0 hF) hw (by omega) hk8 (by rw [List.length_append]; show l.length + 1 + (wF (decide (i.1 = 6)) true F).length < 240; omega) ⟨i0, i6⟩
    have hr2 : jx_r (jz β) jw_M (d + 5) 55 (0, [some (.ref a), some (.ref 13), some (.int (Int32.ofInt (((k : Nat) : Int)))), none], [], (cl_mk h1 κ1)) (cl_mk h2 (κ2), .inl none) := by
      refine jr_1 jm_55 (show jw_cd cd_55 0 = some (.iconst 0) by decide +kernel) rfl ?_
      refine jr_1 jm_55 (F2 := (2, [some (.ref a), some (.ref 13), some (.int (Int32.ofInt (((k : Nat) : Int)))), some (.int (Int32.ofInt (0)))], [], (cl_mk h1 κ1))) (show jw_cd cd_55 1 = some (.istore_n 3) by decide +kernel) rfl ?_
      exact hq2
    have l2 : 50 ≤ h2.length := by have := hF2.2.1; omega
    have b2 := hF2.2.2.2.1
    obtain ⟨h3, κ3, r3, cap3, fb3, hr3, hc3, hF3⟩ := js_app (β := β) (d := d + 1) l2 rfl (by omega) hc2 (x := 93) (by decide) (by rw [List.length_append, List.length_append]; show l.length + 1 + (wF (decide (i.1 = 6)) true F).length < 260; omega)
    refine ⟨h3, κ3, r3, cap3, fb3, ?_, by rw [List.append_assoc, List.append_assoc] at hc3; exact hc3, sbF_tr hF1 (sbF_tr hF2 hF3)⟩
    refine jr_1 jm_13 (show jw_cd cd_13 0 = some (.aload_n 0) by decide +kernel) rfl ?_
    refine jr_1 jm_13 (show jw_cd cd_13 1 = some (.getfield 9) by decide +kernel) (js_getf (cl_old hl ⟨by omega, oA⟩) (jbg (by omega)) (show jw_fld 8 9 5 = some 0 by decide +kernel) rfl) ?_
    refine jr_1 jm_13 (show jw_cd cd_13 4 = some (.tableswitch 144 1 6 #[40, 50, 60, 72, 98, 121]) by decide +kernel) (mt_ts (t := 102) (off := 98) ⟨by omega, by omega⟩ (by omega) (by rw [hk]; rfl) (by decide)) ?_
    refine jr_1 jm_13 (show jw_cd cd_13 102 = some (.aload_n 1) by decide +kernel) rfl ?_
    refine jr_1 jm_13 (show jw_cd cd_13 103 = some (.bipush 91) by decide +kernel) (mt_bi (by decide)) ?_
    refine jr_c jm_13 (show jw_cd cd_13 105 = some (.invokevirtual 95) by decide +kernel) (ccv (n := 1) (m2 := 14) (ci := 2) (a := 13) (bs := [.int (Int32.ofInt (91))]) (r := []) (js_cls cl_c13 (by decide)) (show jw_find jw_cvT 8 95 = some (1, [(2, 14)]) by decide +kernel) (by decide) rfl rfl rfl) jm_14 ⟨Nat.le_of_ble_eq_true rfl, by decide⟩ hr1 ?_
    refine jr_1 jm_13 (show jw_cd cd_13 108 = some (.pop) by decide +kernel) rfl ?_
    refine jr_1 jm_13 (show jw_cd cd_13 109 = some (.aload_n 0) by decide +kernel) rfl ?_
    refine jr_1 jm_13 (show jw_cd cd_13 110 = some (.aload_n 1) by decide +kernel) rfl ?_
    refine jr_1 jm_13 (show jw_cd cd_13 111 = some (.iload_n 2) by decide +kernel) rfl ?_
    refine jr_c jm_13 (show jw_cd cd_13 112 = some (.invokevirtual 107) by decide +kernel) (ccv (n := 2) (m2 := 55) (ci := 5) (a := a) (bs := [.ref 13, .int (Int32.ofInt (((k : Nat) : Int)))]) (r := []) (js_cls (cl_old l1 ⟨by omega, oA1⟩) (jbg (by omega))) (show jw_find jw_cvT 8 107 = some (2, [(5, 55)]) by decide +kernel) (by decide) rfl rfl rfl) jm_55 ⟨Nat.le_of_ble_eq_true rfl, by decide⟩ hr2 ?_
    refine jr_1 jm_13 (show jw_cd cd_13 115 = some (.aload_n 1) by decide +kernel) rfl ?_
    refine jr_1 jm_13 (show jw_cd cd_13 116 = some (.bipush 93) by decide +kernel) (mt_bi (by decide)) ?_
    refine jr_c jm_13 (show jw_cd cd_13 118 = some (.invokevirtual 95) by decide +kernel) (ccv (n := 1) (m2 := 14) (ci := 2) (a := 13) (bs := [.int (Int32.ofInt (93))]) (r := []) (js_cls cl_c13 (by decide)) (show jw_find jw_cvT 8 95 = some (1, [(2, 14)]) by decide +kernel) (by decide) rfl rfl rfl) jm_14 ⟨Nat.le_of_ble_eq_true rfl, by decide⟩ hr3 ?_
    refine jr_1 jm_13 (show jw_cd cd_13 121 = some (.pop) by decide +kernel) rfl ?_
    refine jr_1 jm_13 (show jw_cd cd_13 122 = some (.goto 33) by decide +kernel) (ju_go (t := 155) (by decide)) ?_
    exact jr_v jm_13 (show jw_cd cd_13 155 = some (.return_) by decide +kernel) rfl
  by_cases hk : i.1 = 6
  · have ew : wV i F = [123] ++ (wF (decide (i.1 = 6)) true F ++ [125]) := by
      unfold wV wL wC
      simp [hk]
    rw [ew] at hle ⊢
    rw [List.length_append, List.length_append] at hle
    have hle : l.length + (1 + ((wF (decide (i.1 = 6)) true F).length + 1)) < 240 := hle
    obtain ⟨h1, κ1, r1, cap1, fb1, hr1, hc1, hF1⟩ := js_app (β := β) (d := d + 1) hl rfl (by omega) hs (x := 123) (by decide) (by omega)
    have ho1 := wOB_fr hF1 ho
    have oA1 := ho1.2.1
    have l1 : 50 ≤ h1.length := by have := hF1.2.1; omega
    have b1 := hF1.2.2.2.1
    obtain ⟨h2, κ2, r2, cap2, fb2, hq2, hc2, hF2⟩ := hP m (d + 5) h1 κ1 r1 cap1 fb1 _ a t ka ia kc ic (fsz F) 0 k i.1 i.2.1 f g hm (by omega) l1 (by omega) hc1 ho1 (vF_fr (sbF_q hF1) F _ f g 0 hF) hw (by omega) hk8 (by rw [List.length_append]; show l.length + 1 + (wF (decide (i.1 = 6)) true F).length < 240; omega) ⟨i0, i6⟩
    have hr2 : jx_r (jz β) jw_M (d + 5) 55 (0, [some (.ref a), some (.ref 13), some (.int (Int32.ofInt (((k : Nat) : Int)))), none], [], (cl_mk h1 κ1)) (cl_mk h2 (κ2), .inl none) := by
      refine jr_1 jm_55 (show jw_cd cd_55 0 = some (.iconst 0) by decide +kernel) rfl ?_
      refine jr_1 jm_55 (F2 := (2, [some (.ref a), some (.ref 13), some (.int (Int32.ofInt (((k : Nat) : Int)))), some (.int (Int32.ofInt (0)))], [], (cl_mk h1 κ1))) (show jw_cd cd_55 1 = some (.istore_n 3) by decide +kernel) rfl ?_
      exact hq2
    have l2 : 50 ≤ h2.length := by have := hF2.2.1; omega
    have b2 := hF2.2.2.2.1
    obtain ⟨h3, κ3, r3, cap3, fb3, hr3, hc3, hF3⟩ := js_app (β := β) (d := d + 1) l2 rfl (by omega) hc2 (x := 125) (by decide) (by rw [List.length_append, List.length_append]; show l.length + 1 + (wF (decide (i.1 = 6)) true F).length < 260; omega)
    refine ⟨h3, κ3, r3, cap3, fb3, ?_, by rw [List.append_assoc, List.append_assoc] at hc3; exact hc3, sbF_tr hF1 (sbF_tr hF2 hF3)⟩
    refine jr_1 jm_13 (show jw_cd cd_13 0 = some (.aload_n 0) by decide +kernel) rfl ?_
    refine jr_1 jm_13 (show jw_cd cd_13 1 = some (.getfield 9) by decide +kernel) (js_getf (cl_old hl ⟨by omega, oA⟩) (jbg (by omega)) (show jw_fld 8 9 5 = some 0 by decide +kernel) rfl) ?_
    refine jr_1 jm_13 (show jw_cd cd_13 4 = some (.tableswitch 144 1 6 #[40, 50, 60, 72, 98, 121]) by decide +kernel) (mt_ts (t := 125) (off := 121) ⟨by omega, by omega⟩ (by omega) (by rw [hk]; rfl) (by decide)) ?_
    refine jr_1 jm_13 (show jw_cd cd_13 125 = some (.aload_n 1) by decide +kernel) rfl ?_
    refine jr_1 jm_13 (show jw_cd cd_13 126 = some (.bipush 123) by decide +kernel) (mt_bi (by decide)) ?_
    refine jr_c jm_13 (show jw_cd cd_13 128 = some (.invokevirtual 95) by decide +kernel) (ccv (n := 1) (m2 := 14) (ci := 2) (a := 13) (bs := [.int (Int32.ofInt (123))]) (r := []) (js_cls cl_c13 (by decide)) (show jw_find jw_cvT 8 95 = some (1, [(2, 14)]) by decide +kernel) (by decide) rfl rfl rfl) jm_14 ⟨Nat.le_of_ble_eq_true rfl, by decide⟩ hr1 ?_
    refine jr_1 jm_13 (show jw_cd cd_13 131 = some (.pop) by decide +kernel) rfl ?_
    refine jr_1 jm_13 (show jw_cd cd_13 132 = some (.aload_n 0) by decide +kernel) rfl ?_
    refine jr_1 jm_13 (show jw_cd cd_13 133 = some (.aload_n 1) by decide +kernel) rfl ?_
    refine jr_1 jm_13 (show jw_cd cd_13 134 = some (.iload_n 2) by decide +kernel) rfl ?_
    refine jr_c jm_13 (show jw_cd cd_13 135 = some (.invokevirtual 107) by decide +kernel) (ccv (n := 2) (m2 := 55) (ci := 5) (a := a) (bs := [.ref 13, .int (Int32.ofInt (((k : Nat) : Int)))]) (r := []) (js_cls (cl_old l1 ⟨by omega, oA1⟩) (jbg (by omega))) (show jw_find jw_cvT 8 107 = some (2, [(5, 55)]) by decide +kernel) (by decide) rfl rfl rfl) jm_55 ⟨Nat.le_of_ble_eq_true rfl, by decide⟩ hr2 ?_
    refine jr_1 jm_13 (show jw_cd cd_13 138 = some (.aload_n 1) by decide +kernel) rfl ?_
    refine jr_1 jm_13 (show jw_cd cd_13 139 = some (.bipush 125) by decide +kernel) (mt_bi (by decide)) ?_
    refine jr_c jm_13 (show jw_cd cd_13 141 = some (.invokevirtual 95) by decide +kernel) (ccv (n := 1) (m2 := 14) (ci := 2) (a := 13) (bs := [.int (Int32.ofInt (125))]) (r := []) (js_cls cl_c13 (by decide)) (show jw_find jw_cvT 8 95 = some (1, [(2, 14)]) by decide +kernel) (by decide) rfl rfl rfl) jm_14 ⟨Nat.le_of_ble_eq_true rfl, by decide⟩ hr3 ?_
    refine jr_1 jm_13 (show jw_cd cd_13 144 = some (.pop) by decide +kernel) rfl ?_
    refine jr_1 jm_13 (show jw_cd cd_13 145 = some (.goto 10) by decide +kernel) (ju_go (t := 155) (by decide)) ?_
    exact jr_v jm_13 (show jw_cd cd_13 155 = some (.return_) by decide +kernel) rfl
  · have hk : i.1 = 0 := by omega
    have ew : wV i F = [110] := by
      unfold wV wL
      simp [hk]
    rw [ew] at hle ⊢
    obtain ⟨h1, κ1, r1, cap1, fb1, hr1, hc1, hF1⟩ := js_app (β := β) (d := d + 1) hl rfl (by omega) hs (x := 110) (by decide) (by omega)
    refine ⟨h1, κ1, r1, cap1, fb1, ?_, hc1, hF1⟩
    refine jr_1 jm_13 (show jw_cd cd_13 0 = some (.aload_n 0) by decide +kernel) rfl ?_
    refine jr_1 jm_13 (show jw_cd cd_13 1 = some (.getfield 9) by decide +kernel) (js_getf (cl_old hl ⟨by omega, oA⟩) (jbg (by omega)) (show jw_fld 8 9 5 = some 0 by decide +kernel) rfl) ?_
    refine jr_1 jm_13 (show jw_cd cd_13 4 = some (.tableswitch 144 1 6 #[40, 50, 60, 72, 98, 121]) by decide +kernel) (mt_td (t := 148) ⟨by omega, by omega⟩ (by omega) (by decide)) ?_
    refine jr_1 jm_13 (show jw_cd cd_13 148 = some (.aload_n 1) by decide +kernel) rfl ?_
    refine jr_1 jm_13 (show jw_cd cd_13 149 = some (.bipush 110) by decide +kernel) (mt_bi (by decide)) ?_
    refine jr_c jm_13 (show jw_cd cd_13 151 = some (.invokevirtual 95) by decide +kernel) (ccv (n := 1) (m2 := 14) (ci := 2) (a := 13) (bs := [.int (Int32.ofInt (110))]) (r := []) (js_cls cl_c13 (by decide)) (show jw_find jw_cvT 8 95 = some (1, [(2, 14)]) by decide +kernel) (by decide) rfl rfl rfl) jm_14 ⟨Nat.le_of_ble_eq_true rfl, by decide⟩ hr1 ?_
    refine jr_1 jm_13 (show jw_cd cd_13 154 = some (.pop) by decide +kernel) rfl ?_
    exact jr_v jm_13 (show jw_cd cd_13 155 = some (.return_) by decide +kernel) rfl
theorem js_wrI {β : Bool} : ∀ F : FT, wrL β F
  | .leaf => by
    intro m D h κ r cap fb l a t ka ia kc ic sz j k i1 i2 f g hm hD hl hb32 hs ho hF hw hj hk8 hle hi
    obtain ⟨⟨z1, z2, z3⟩, oA, oK, oI, o1, o2⟩ := id ho
    have z11 := z1.1
    have z12 := z1.2.1
    have z21 := z2.1
    have z22 := z2.2.1
    have z31 := z3.1
    have z32 := z3.2.1
    have hj : j = sz := by simpa [fsz] using hj
    refine ⟨h, κ, r, cap, fb, ?_, by show sbR h κ r cap fb (l ++ []); rw [List.append_nil]; exact hs, sbF_refl⟩
    refine jr_1 jm_55 (show jw_cd cd_55 2 = some (.iload_n 3) by decide +kernel) rfl ?_
    refine jr_1 jm_55 (show jw_cd cd_55 3 = some (.aload_n 0) by decide +kernel) rfl ?_
    refine jr_1 jm_55 (show jw_cd cd_55 4 = some (.getfield 29) by decide +kernel) (js_getf (cl_old hl ⟨by omega, oA⟩) (jbg (by omega)) (show jw_fld 8 29 5 = some 5 by decide +kernel) rfl) ?_
    refine jr_1 jm_55 (show jw_cd cd_55 7 = some (.if_icmp .ge 69) by decide +kernel) (mb_t (q := .ge) (a := ((j : Nat) : Int)) (b := ((sz : Nat) : Int)) (t := 76) (by show ((sz : Nat) : Int) ≤ ((j : Nat) : Int); omega) ⟨by omega, by omega⟩ ⟨by omega, by omega⟩ (by decide) (by decide)) ?_
    exact jr_v jm_55 (show jw_cd cd_55 76 = some (.return_) by decide +kernel) rfl
  | .inner s0 i u0 c n => by
    intro m D h κ r cap fb l a t ka ia kc ic sz j k i1 i2 f g hm hD hl hb32 hs ho hF hw hj hk8 hle hi
    obtain ⟨⟨b, hfj, hb⟩, hg, hn⟩ := hF
    have hj : j + (fsz n + 1) = sz := hj
    have hdp : fdp (.inner s0 i u0 c n) = max (1 + fdp c) (fdp n) := rfl
    have hel : wF (decide (i1 = 6)) (decide (j = 0)) (.inner s0 i u0 c n) = (bif decide (j = 0) then [] else [44]) ++ ((bif decide (i1 = 6) then i.2.2.2 ++ [58] else []) ++ (wV i c ++ wF (decide (i1 = 6)) false n)) := by
      show (bif decide (j = 0) then [] else [44]) ++ ((bif decide (i1 = 6) then i.2.2.2 ++ [58] else []) ++ (wL i ++ ((if 5 ≤ i.1 then wF (decide (i.1 = 6)) true c ++ [wC i] else []) ++ wF (decide (i1 = 6)) false n))) = _
      unfold wV
      rw [List.append_assoc]
    rw [hel] at hle ⊢
    rw [List.length_append, List.length_append, List.length_append] at hle
    obtain ⟨d, rfl⟩ : ∃ d, D = d + 7 := ⟨D - 7, by omega⟩
    obtain ⟨h1, κ1, r1, cap1, fb1, kk1, hc1, hF1⟩ := js_wi1 (β := β) (d := d + 2) (j := j) (k := k) hl hs hb32 ho (by omega) (by omega) (by omega)
    have l1 : 50 ≤ h1.length := by have := hF1.2.1; omega
    have p1 := hF1.2.2.2.1
    obtain ⟨h2, κ2, r2, cap2, fb2, kk2, hc2, hF2⟩ := js_wi2 (β := β) (d := d + 2) (j := j) (k := k) (s := i.2.2.2) l1 hc1 (by omega) (wOB_fr hF1 ho) (by omega) hi hw.1.2.2.2.2 (fun e => by
      obtain ⟨ak, q1, q2⟩ := hg (decide_eq_true e)
      exact ⟨ak, q1, vNd_fr (sbF_q hF1) (fun _ _ z => z) q2⟩) (fun e => by
      rw [decide_eq_true e] at hle
      rw [List.length_append]
      have hle : l.length + ((bif decide (j = 0) then [] else [44] : List Int).length + ((i.2.2.2 ++ [58]).length + ((wV i c).length + (wF true false n).length))) < 240 := hle
      rw [List.length_append] at hle
      omega)
    have l2 : 50 ≤ h2.length := by have := hF2.2.1; omega
    have p2 := hF2.2.2.2.1
    have hF12 := sbF_tr hF1 hF2
    have hb2 : vN h2 (Xr r2) b i c := vN_fr (sbF_q hF12) hb
    obtain ⟨h3, κ3, r3, cap3, fb3, hr3, hc3, hF3⟩ := js_wrV (β := β) (d := d) (m := m - 1) (k := k + 1) (js_wrI c) l2 hc2 (by omega) hb2 hw.1 hw.2.1 (by omega) (by omega) (by omega) (by
      rw [List.length_append, List.length_append]
      omega)
    have l3 : 50 ≤ h3.length := by have := hF3.2.1; omega
    have p3 := hF3.2.2.2.1
    have hF13 := sbF_tr hF12 hF3
    obtain ⟨h4, κ4, r4, cap4, fb4, hr4, hc4, hF4⟩ := js_wrI n m (d + 7) h3 κ3 r3 cap3 fb3 _ a t ka ia kc ic sz (j + 1) k i1 i2 f g (by omega) hD l3 (by omega) hc3 (wOB_fr hF13 ho) (vF_fr (sbF_q hF13) n _ f g (j + 1) hn) hw.2.2 (by omega) (by omega) (by
      rw [List.length_append, List.length_append, List.length_append, decide_eq_false (by omega : ¬ j + 1 = 0)]
      omega) hi
    rw [decide_eq_false (by omega : ¬ j + 1 = 0)] at hc4
    refine ⟨h4, κ4, r4, cap4, fb4, kk1 _ (kk2 _ ?_), by simp only [List.append_assoc] at hc4 ⊢; exact hc4, sbF_tr hF13 hF4⟩
    obtain ⟨⟨z1, z2, z3⟩, oA, oK, oI, o1, o2⟩ := wOB_fr hF12 ho
    have z11 := z1.1
    have z12 := z1.2.1
    have z21 := z2.1
    have z22 := z2.2.1
    have z31 := z3.1
    have z32 := z3.2.1

    refine jr_1 jm_55 (show jw_cd cd_55 57 = some (.aload_n 0) by decide +kernel) rfl ?_
    refine jr_1 jm_55 (show jw_cd cd_55 58 = some (.getfield 26) by decide +kernel) (js_getf (cl_old l2 ⟨by omega, oA⟩) (jbg (by omega)) (show jw_fld 8 26 5 = some 4 by decide +kernel) rfl) ?_
    refine jr_1 jm_55 (show jw_cd cd_55 61 = some (.iload_n 3) by decide +kernel) rfl ?_
    refine jr_1 jm_55 (show jw_cd cd_55 62 = some (.aaload) by decide +kernel) (cal_a (e := .ref b) (jx_ar_h (cl_old l2 ⟨by omega, oI⟩) (jbg (by omega))) (Or.inl rfl) (by omega) (by omega) (by omega) (by rw [Int.toNat_natCast]; exact hfj)) ?_
    refine jr_1 jm_55 (show jw_cd cd_55 63 = some (.aload_n 1) by decide +kernel) rfl ?_
    refine jr_1 jm_55 (show jw_cd cd_55 64 = some (.iload_n 2) by decide +kernel) rfl ?_
    refine jr_1 jm_55 (show jw_cd cd_55 65 = some (.iconst 1) by decide +kernel) rfl ?_
    refine jr_1 jm_55 (show jw_cd cd_55 66 = some (.iadd) by decide +kernel) (mt_add (c := ((k : Nat) : Int) + 1) rfl) ?_
    refine jr_c jm_55 (show jw_cd cd_55 67 = some (.invokevirtual 111) by decide +kernel) (ccv (n := 2) (m2 := 13) (ci := 5) (a := b) (bs := [.ref 13, .int (Int32.ofInt (((k : Nat) : Int) + 1))]) (r := []) (vN_cls l2 hb2) (show jw_find jw_cvT 8 111 = some (2, [(5, 13)]) by decide +kernel) (by decide) rfl rfl rfl) jm_13 ⟨Nat.le_of_ble_eq_true rfl, by decide⟩ hr3 ?_
    refine jr_1 jm_55 (F2 := (73, [some (.ref a), some (.ref 13), some (.int (Int32.ofInt (((k : Nat) : Int)))), some (.int (Int32.ofInt (((j : Nat) : Int) + 1)))], [], (cl_mk h3 κ3))) (show jw_cd cd_55 70 = some (.iinc 3 1) by decide +kernel) (mt_inc (a := ((j : Nat) : Int)) (c := ((j : Nat) : Int) + 1) rfl (by omega) rfl) ?_
    refine jr_1 jm_55 (show jw_cd cd_55 73 = some (.goto (-71)) by decide +kernel) (ju_go (t := 2) (by decide)) ?_
    exact hr4
