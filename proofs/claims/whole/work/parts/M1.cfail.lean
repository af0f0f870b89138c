/-! ===== the class: rank, allOfKind, failure (printed by program: gen129.py) ===== -/
theorem jm_175 : jw_M 175 = some (10, 5, ((Option.some Jvm.ClassFile.FieldType.int), false), jw_cd cd_175, fun _ _ => none) := rfl
theorem jm_176 : jw_M 176 = some (29, 2, ((Option.some Jvm.ClassFile.FieldType.boolean), false), jw_cd cd_176, fun _ _ => none) := rfl
theorem jm_177 : jw_M 177 = some (10, 5, ((Option.some Jvm.ClassFile.FieldType.boolean), false), jw_cd cd_177, fun _ _ => none) := rfl
theorem jm_178 : jw_M 178 = some (10, 3, ((Option.some (Jvm.ClassFile.FieldType.object "PickDesk$Value")), false), jw_cd cd_178, fun _ _ => none) := rfl
theorem jc_rank {β : Bool} {d : Nat} {h : jx_H} {κ : mS} (hl : 50 ≤ h.length) {X Y : Nat → Prop} {it t0 : Nat} {v : vT} {s : List Int} (hv : vR h X it v) (hok : vok v) (ht : strR h Y t0 s) (hs : tx s) : ∃ c, jx_r (jz β) jw_M (d + 3) 178 (0, [some (.ref 11), some (.ref it), some (.ref t0)], [], (cl_mk h κ)) (cl_mk h (κ), .inl (some (.ref (c)))) ∧ vQ h X c (vrank s v.1 v.2) := by
  obtain ⟨i, F⟩ := v
  have hO : vO h κ X it i F := vR_O (κ := κ) hl hv
  obtain ⟨zl0, zt, zka, zia, zkc, zic, zf, zg, ⟨zl1, zl2⟩, hzA, hzS, hzK, hzI, ⟨zs1, zs2⟩, zor, hzF⟩ := id hO
  have hs7 := hs.1
  obtain ⟨uc, ua, ub, uf, u0, u1, -⟩ := strR_q (β := β) (κ := κ) hl ht
  unfold vrank
  by_cases he : s = []
  · rw [if_pos he]
    refine ⟨it, ?_, hv⟩
    refine jr_1 jm_178 (show jw_cd cd_178 0 = some (.aload_n 2) by decide +kernel) rfl ?_
    refine jr_c jm_178 (show jw_cd cd_178 1 = some (.invokevirtual 55) by decide +kernel) (ccv (n := 0) (m2 := 179) (ci := 9) (a := t0) (bs := []) (r := []) uc (show jw_find jw_cvT 10 55 = some (0, [(9, 179)]) by decide +kernel) (by decide) rfl rfl rfl) jm_179 ⟨Nat.le_of_ble_eq_true rfl, by decide⟩ ((jc_isEmpty hl ht (by omega)).1 he) ?_
    refine jr_1 jm_178 (show jw_cd cd_178 4 = some (.ifCond .eq 7) by decide +kernel) (mz_f (q := .eq) (a := 1) (by show ¬ (1 = 0); omega) ⟨by omega, by omega⟩ (by decide)) ?_
    refine jr_1 jm_178 (show jw_cd cd_178 7 = some (.aload_n 1) by decide +kernel) rfl ?_
    refine jr_1 jm_178 (show jw_cd cd_178 8 = some (.goto 12) by decide +kernel) (ju_go (t := 20) (by decide)) ?_
    exact jr_v jm_178 (show jw_cd cd_178 20 = some (.areturn) by decide +kernel) rfl
  · rw [if_neg he]
    obtain ⟨r1, r2⟩ := jc_atR (β := β) (d := d) (o := 7) (κ := κ) hl hO hok.2 ht hs
    have nx : ∃ c, jx_r (jz β) jw_M (d + 2) 165 (0, [some (.ref it), some (.ref t0), some (.ref 7), none], [], (cl_mk h κ)) (cl_mk h (κ), .inl (some (.ref (c)))) ∧ vQ h X c (vget s i F) := by
      cases hg : vget s i F with
      | none => exact ⟨7, r2 hg, rfl⟩
      | some y =>
        obtain ⟨b, b1, b2⟩ := r1 y hg
        exact ⟨b, b1, Or.inr b2⟩
    obtain ⟨c, c1, hc⟩ := nx
    refine ⟨c, ?_, hc⟩
    refine jr_1 jm_178 (show jw_cd cd_178 0 = some (.aload_n 2) by decide +kernel) rfl ?_
    refine jr_c jm_178 (show jw_cd cd_178 1 = some (.invokevirtual 55) by decide +kernel) (ccv (n := 0) (m2 := 179) (ci := 9) (a := t0) (bs := []) (r := []) uc (show jw_find jw_cvT 10 55 = some (0, [(9, 179)]) by decide +kernel) (by decide) rfl rfl rfl) jm_179 ⟨Nat.le_of_ble_eq_true rfl, by decide⟩ ((jc_isEmpty hl ht (by omega)).2 he) ?_
    refine jr_1 jm_178 (show jw_cd cd_178 4 = some (.ifCond .eq 7) by decide +kernel) (mz_t (q := .eq) (a := 0) (t := 11) (by show 0 = 0; omega) ⟨by omega, by omega⟩ (by decide) (by decide)) ?_
    refine jr_1 jm_178 (show jw_cd cd_178 11 = some (.aload_n 1) by decide +kernel) rfl ?_
    refine jr_1 jm_178 (show jw_cd cd_178 12 = some (.aload_n 2) by decide +kernel) rfl ?_
    refine jr_1 jm_178 (show jw_cd cd_178 13 = some (.aload_n 0) by decide +kernel) rfl ?_
    refine jr_1 jm_178 (show jw_cd cd_178 14 = some (.getfield 9) by decide +kernel) (cgr_11_0 (show jw_fld 10 9 7 = some 0 by decide +kernel)) ?_
    refine jr_c jm_178 (show jw_cd cd_178 17 = some (.invokevirtual 61) by decide +kernel) (ccv (n := 2) (m2 := 165) (ci := 5) (a := it) (bs := [.ref t0, .ref 7]) (r := []) (js_cls hzA (jbg (by omega))) (show jw_find jw_cvT 10 61 = some (2, [(5, 165)]) by decide +kernel) (by decide) rfl rfl rfl) jm_165 ⟨Nat.le_of_ble_eq_true rfl, by decide⟩ c1 ?_
    exact jr_v jm_178 (show jw_cd cd_178 20 = some (.areturn) by decide +kernel) rfl
def allK (s : List Int) (k : Int) : FT → Bool
  | .leaf => true
  | .inner _ i _ c n => decide (rkind s i c = k) && allK s k n
theorem rkind_dv (s : List Int) (i : tI) (c : FT) : rkind s i c = (dv (vrank s i c)).1.1 := by
  unfold rkind
  cases vrank s i c with
  | none => rfl
  | some y => rfl
theorem vrnk_ok {s : List Int} {v : vT} (hv : vok v) : vok (dv (vrank s v.1 v.2)) := by
  unfold vrank
  by_cases he : s = []
  · rw [if_pos he]
    exact hv
  · rw [if_neg he]
    unfold vget
    by_cases h6 : v.1.1 = 6
    · rw [if_pos h6]
      cases hg : fget s v.2 with
      | none => exact nulV_ok
      | some y => exact fget_ok _ y.1 y.2 hv.2 hg
    · rw [if_neg h6]
      exact nulV_ok
theorem jc_allL {β : Bool} {d : Nat} {h : jx_H} {κ : mS} (hl : 50 ≤ h.length) {X Y : Nat → Prop} {a t0 t ka ia ic : Nat} {i : tI} {F0 : FT} {f g : Nat → Value} {s : List Int} {kd : Int} {ob : Bool} (ht : strR h Y t0 s) (hs : tx s) (hkd : 0 ≤ kd ∧ kd ≤ 6) (l0 : a < 4000000000) (l2 : ia < 4000000000) (hA : (cl_mk h κ)[a]? = some (.inr (5, [.int (Int32.ofInt (i.1)), .int (Int32.ofInt (i.2.1)), .ref t, .ref ka, .ref ia, .int (Int32.ofInt (((fsz F0 : Nat) : Int)))]))) (hI : (cl_mk h κ)[ia]? = some (.inl (4, ic, f))) (hsz : fsz F0 ≤ ic ∧ ic ≤ 1000000) : ∀ (F : FT) (j : Nat), vF h X F ob f g j → fwf F → j + fsz F = fsz F0 → jx_r (jz β) jw_M (d + 4) 177 (3, [some (.ref 11), some (.ref a), some (.ref t0), some (.int (Int32.ofInt (kd))), some (.int (Int32.ofInt (((j : Nat) : Int))))], [], (cl_mk h κ)) (cl_mk h (κ), .inl (some (.int (Int32.ofInt (if allK s kd F = true then 1 else 0)))))
  | .leaf, j, _, _, hj => by
    have hj : j + 0 = fsz F0 := hj
    show jx_r (jz β) jw_M (d + 4) 177 (3, [some (.ref 11), some (.ref a), some (.ref t0), some (.int (Int32.ofInt (kd))), some (.int (Int32.ofInt (((j : Nat) : Int))))], [], (cl_mk h κ)) (cl_mk h (κ), .inl (some (.int (Int32.ofInt (1)))))
    refine jr_1 jm_177 (show jw_cd cd_177 3 = some (.iload 4) by decide +kernel) rfl ?_
    refine jr_1 jm_177 (show jw_cd cd_177 5 = some (.aload_n 1) by decide +kernel) rfl ?_
    refine jr_1 jm_177 (show jw_cd cd_177 6 = some (.getfield 44) by decide +kernel) (js_getf hA (jbg (by omega)) (show jw_fld 10 44 5 = some 5 by decide +kernel) rfl) ?_
    refine jr_1 jm_177 (show jw_cd cd_177 9 = some (.if_icmp .ge 30) by decide +kernel) (mb_t (q := .ge) (a := ((j : Nat) : Int)) (b := ((fsz F0 : Nat) : Int)) (t := 39) (by show ((fsz F0 : Nat) : Int) ≤ ((j : Nat) : Int); omega) ⟨by omega, by omega⟩ ⟨by omega, by omega⟩ (by decide) (by decide)) ?_
    refine jr_1 jm_177 (show jw_cd cd_177 39 = some (.iconst 1) by decide +kernel) rfl ?_
    exact jr_v jm_177 (show jw_cd cd_177 40 = some (.ireturn) by decide +kernel) rfl
  | .inner s0 i0 u0 c0 n, j, hvF, hw, hj => by
    have hj : j + (fsz n + 1) = fsz F0 := hj
    obtain ⟨⟨it, hit, hitv⟩, -, h3⟩ := hvF
    have hitv : vN h X it i0 c0 := hitv
    obtain ⟨c, c1, hc⟩ := jc_rank (β := β) (d := d) (κ := κ) (v := (i0, c0)) hl (Or.inr hitv) ⟨hw.1, hw.2.1⟩ ht hs
    have hO := vR_O (κ := κ) hl (vQ_R hc)
    have hrok := vrnk_ok (s := s) (v := (i0, c0)) ⟨hw.1, hw.2.1⟩
    have erk := rkind_dv s i0 c0
    obtain ⟨w, E, ew⟩ : ∃ (w : tI) (E : FT), dv (vrank s i0 c0) = (w, E) := ⟨_, _, rfl⟩
    have hO : vO h κ X c w E := by
      have := hO
      rw [show dv (vrank s (i0, c0).1 (i0, c0).2) = (w, E) from ew] at this
      exact this
    have hrok : vok (w, E) := by rw [← ew]; exact hrok
    rw [ew] at erk
    have erk : rkind s i0 c0 = w.1 := erk
    have w1 := hrok.1.1
    have w2 := hrok.1.2.1
    obtain ⟨zl0, zt, zka, zia, zkc, zic, zf, zg, ⟨zl1, zl2⟩, hzA, hzS, hzK, hzI, ⟨zs1, zs2⟩, zor, hzF⟩ := id hO
    show jx_r (jz β) jw_M (d + 4) 177 (3, [some (.ref 11), some (.ref a), some (.ref t0), some (.int (Int32.ofInt (kd))), some (.int (Int32.ofInt (((j : Nat) : Int))))], [], (cl_mk h κ)) (cl_mk h (κ), .inl (some (.int (Int32.ofInt (if (decide (rkind s i0 c0 = kd) && allK s kd n) = true then 1 else 0)))))
    by_cases he : w.1 = kd
    · rw [erk, decide_eq_true he, Bool.true_and]
      have hr := jc_allL (β := β) (d := d) hl ht hs hkd l0 l2 hA hI hsz n (j + 1) h3 hw.2.2 (by omega)
      refine jr_1 jm_177 (show jw_cd cd_177 3 = some (.iload 4) by decide +kernel) rfl ?_
      refine jr_1 jm_177 (show jw_cd cd_177 5 = some (.aload_n 1) by decide +kernel) rfl ?_
      refine jr_1 jm_177 (show jw_cd cd_177 6 = some (.getfield 44) by decide +kernel) (js_getf hA (jbg (by omega)) (show jw_fld 10 44 5 = some 5 by decide +kernel) rfl) ?_
      refine jr_1 jm_177 (show jw_cd cd_177 9 = some (.if_icmp .ge 30) by decide +kernel) (mb_f (q := .ge) (a := ((j : Nat) : Int)) (b := ((fsz F0 : Nat) : Int)) (by show ¬ (((fsz F0 : Nat) : Int) ≤ ((j : Nat) : Int)); omega) ⟨by omega, by omega⟩ ⟨by omega, by omega⟩ (by decide)) ?_
      refine jr_1 jm_177 (show jw_cd cd_177 12 = some (.aload_n 0) by decide +kernel) rfl ?_
      refine jr_1 jm_177 (show jw_cd cd_177 13 = some (.aload_n 1) by decide +kernel) rfl ?_
      refine jr_1 jm_177 (show jw_cd cd_177 14 = some (.getfield 47) by decide +kernel) (js_getf hA (jbg (by omega)) (show jw_fld 10 47 5 = some 4 by decide +kernel) rfl) ?_
      refine jr_1 jm_177 (show jw_cd cd_177 17 = some (.iload 4) by decide +kernel) rfl ?_
      refine jr_1 jm_177 (show jw_cd cd_177 19 = some (.aaload) by decide +kernel) (cal_a (e := .ref it) (js_arr hI (jbg (by omega))) (Or.inl rfl) (by omega) (by omega) (by omega) (by rw [Int.toNat_natCast]; exact hit)) ?_
      refine jr_1 jm_177 (show jw_cd cd_177 20 = some (.aload_n 2) by decide +kernel) rfl ?_
      refine jr_c jm_177 (show jw_cd cd_177 21 = some (.invokevirtual 51) by decide +kernel) (ccv (n := 2) (m2 := 178) (ci := 7) (a := 11) (bs := [.ref it, .ref t0]) (r := []) (js_cls cl_c11 (by decide)) (show jw_find jw_cvT 10 51 = some (2, [(7, 178)]) by decide +kernel) (by decide) rfl rfl rfl) jm_178 ⟨Nat.le_of_ble_eq_true rfl, by decide⟩ c1 ?_
      refine jr_1 jm_177 (show jw_cd cd_177 24 = some (.getfield 15) by decide +kernel) (js_getf hzA (jbg (by omega)) (show jw_fld 10 15 5 = some 0 by decide +kernel) rfl) ?_
      refine jr_1 jm_177 (show jw_cd cd_177 27 = some (.iload_n 3) by decide +kernel) rfl ?_
      refine jr_1 jm_177 (show jw_cd cd_177 28 = some (.if_icmp .eq 5) by decide +kernel) (mb_t (q := .eq) (a := w.1) (b := kd) (t := 33) (by show w.1 = kd; omega) ⟨by omega, by omega⟩ ⟨by omega, by omega⟩ (by decide) (by decide)) ?_
      refine jr_1 jm_177 (F2 := (36, [some (.ref 11), some (.ref a), some (.ref t0), some (.int (Int32.ofInt (kd))), some (.int (Int32.ofInt (((j : Nat) : Int) + 1)))], [], (cl_mk h κ))) (show jw_cd cd_177 33 = some (.iinc 4 1) by decide +kernel) (mt_inc (a := ((j : Nat) : Int)) (c := ((j : Nat) : Int) + 1) rfl (by omega) rfl) ?_
      refine jr_1 jm_177 (show jw_cd cd_177 36 = some (.goto (-33)) by decide +kernel) (ju_go (t := 3) (by decide)) ?_
      exact hr
    · rw [erk, decide_eq_false he, Bool.false_and]
      show jx_r (jz β) jw_M (d + 4) 177 (3, [some (.ref 11), some (.ref a), some (.ref t0), some (.int (Int32.ofInt (kd))), some (.int (Int32.ofInt (((j : Nat) : Int))))], [], (cl_mk h κ)) (cl_mk h (κ), .inl (some (.int (Int32.ofInt (0)))))
      refine jr_1 jm_177 (show jw_cd cd_177 3 = some (.iload 4) by decide +kernel) rfl ?_
      refine jr_1 jm_177 (show jw_cd cd_177 5 = some (.aload_n 1) by decide +kernel) rfl ?_
      refine jr_1 jm_177 (show jw_cd cd_177 6 = some (.getfield 44) by decide +kernel) (js_getf hA (jbg (by omega)) (show jw_fld 10 44 5 = some 5 by decide +kernel) rfl) ?_
      refine jr_1 jm_177 (show jw_cd cd_177 9 = some (.if_icmp .ge 30) by decide +kernel) (mb_f (q := .ge) (a := ((j : Nat) : Int)) (b := ((fsz F0 : Nat) : Int)) (by show ¬ (((fsz F0 : Nat) : Int) ≤ ((j : Nat) : Int)); omega) ⟨by omega, by omega⟩ ⟨by omega, by omega⟩ (by decide)) ?_
      refine jr_1 jm_177 (show jw_cd cd_177 12 = some (.aload_n 0) by decide +kernel) rfl ?_
      refine jr_1 jm_177 (show jw_cd cd_177 13 = some (.aload_n 1) by decide +kernel) rfl ?_
      refine jr_1 jm_177 (show jw_cd cd_177 14 = some (.getfield 47) by decide +kernel) (js_getf hA (jbg (by omega)) (show jw_fld 10 47 5 = some 4 by decide +kernel) rfl) ?_
      refine jr_1 jm_177 (show jw_cd cd_177 17 = some (.iload 4) by decide +kernel) rfl ?_
      refine jr_1 jm_177 (show jw_cd cd_177 19 = some (.aaload) by decide +kernel) (cal_a (e := .ref it) (js_arr hI (jbg (by omega))) (Or.inl rfl) (by omega) (by omega) (by omega) (by rw [Int.toNat_natCast]; exact hit)) ?_
      refine jr_1 jm_177 (show jw_cd cd_177 20 = some (.aload_n 2) by decide +kernel) rfl ?_
      refine jr_c jm_177 (show jw_cd cd_177 21 = some (.invokevirtual 51) by decide +kernel) (ccv (n := 2) (m2 := 178) (ci := 7) (a := 11) (bs := [.ref it, .ref t0]) (r := []) (js_cls cl_c11 (by decide)) (show jw_find jw_cvT 10 51 = some (2, [(7, 178)]) by decide +kernel) (by decide) rfl rfl rfl) jm_178 ⟨Nat.le_of_ble_eq_true rfl, by decide⟩ c1 ?_
      refine jr_1 jm_177 (show jw_cd cd_177 24 = some (.getfield 15) by decide +kernel) (js_getf hzA (jbg (by omega)) (show jw_fld 10 15 5 = some 0 by decide +kernel) rfl) ?_
      refine jr_1 jm_177 (show jw_cd cd_177 27 = some (.iload_n 3) by decide +kernel) rfl ?_
      refine jr_1 jm_177 (show jw_cd cd_177 28 = some (.if_icmp .eq 5) by decide +kernel) (mb_f (q := .eq) (a := w.1) (b := kd) (by show ¬ (w.1 = kd); omega) ⟨by omega, by omega⟩ ⟨by omega, by omega⟩ (by decide)) ?_
      refine jr_1 jm_177 (show jw_cd cd_177 31 = some (.iconst 0) by decide +kernel) rfl ?_
      exact jr_v jm_177 (show jw_cd cd_177 32 = some (.ireturn) by decide +kernel) rfl
theorem jc_all {β : Bool} {d : Nat} {h : jx_H} {κ : mS} (hl : 50 ≤ h.length) {X Y : Nat → Prop} {a t0 : Nat} {i : tI} {F : FT} {s : List Int} {kd : Int} (hv : vO h κ X a i F) (hw : fwf F) (ht : strR h Y t0 s) (hs : tx s) (hkd : 0 ≤ kd ∧ kd ≤ 6) : jx_r (jz β) jw_M (d + 4) 177 (0, [some (.ref 11), some (.ref a), some (.ref t0), some (.int (Int32.ofInt (kd))), none], [], (cl_mk h κ)) (cl_mk h (κ), .inl (some (.int (Int32.ofInt (if allK s kd F = true then 1 else 0))))) := by
  obtain ⟨l0, t, ka, ia, kc, ic, f, g, ⟨l1, l2⟩, hA, hS, hK, hI, ⟨s1, s2⟩, or, hF⟩ := id hv
  have hr := jc_allL (β := β) (d := d) (κ := κ) hl ht hs hkd l0 l2 hA hI ⟨s1, s2⟩ F 0 hF hw (by omega)
  refine jr_1 jm_177 (show jw_cd cd_177 0 = some (.iconst 0) by decide +kernel) rfl ?_
  refine jr_1 jm_177 (F2 := (3, [some (.ref 11), some (.ref a), some (.ref t0), some (.int (Int32.ofInt (kd))), some (.int (Int32.ofInt (0)))], [], (cl_mk h κ))) (show jw_cd cd_177 1 = some (.istore 4) by decide +kernel) rfl ?_
  exact hr
theorem fsort_K {s : List Int} : ∀ (F : FT) (k : Int), (k = 3 ∨ k = 4) → (¬ fsort s k F = -1 ↔ allK s k F = true)
  | .leaf, k, hk => by
    show ¬ k = -1 ↔ true = true
    constructor
    · intro _; rfl
    · intro _; omega
  | .inner _ i _ c n, k, hk => by
    show ¬ (if (¬ rkind s i c = 3 ∧ ¬ rkind s i c = 4) ∨ (¬ k = 0 ∧ ¬ k = rkind s i c) then -1 else fsort s (rkind s i c) n) = -1 ↔ (decide (rkind s i c = k) && allK s k n) = true
    by_cases he : rkind s i c = k
    · rw [if_neg (by omega), he, decide_eq_true rfl, Bool.true_and]
      exact fsort_K n k hk
    · rw [if_pos (by omega), decide_eq_false he, Bool.false_and]
      constructor
      · intro z; exact absurd rfl z
      · intro z; cases z
theorem fsort_0 {s : List Int} : ∀ F : FT, (¬ fsort s 0 F = -1 ↔ (allK s 3 F = true ∨ allK s 4 F = true))
  | .leaf => by
    constructor
    · intro _; exact Or.inl rfl
    · intro _ z; cases z
  | .inner _ i _ c n => by
    show ¬ (if (¬ rkind s i c = 3 ∧ ¬ rkind s i c = 4) ∨ (¬ (0 : Int) = 0 ∧ ¬ (0 : Int) = rkind s i c) then -1 else fsort s (rkind s i c) n) = -1 ↔ ((decide (rkind s i c = 3) && allK s 3 n) = true ∨ (decide (rkind s i c = 4) && allK s 4 n) = true)
    by_cases h3 : rkind s i c = 3
    · rw [if_neg (by omega), h3, decide_eq_true rfl, Bool.true_and, decide_eq_false (by decide), Bool.false_and, fsort_K n 3 (Or.inl rfl)]
      constructor
      · intro z; exact Or.inl z
      · rintro (z | z)
        · exact z
        · cases z
    · by_cases h4 : rkind s i c = 4
      · rw [if_neg (by omega), h4, decide_eq_true rfl, Bool.true_and, decide_eq_false (by decide), Bool.false_and, fsort_K n 4 (Or.inr rfl)]
        constructor
        · intro z; exact Or.inr z
        · rintro (z | z)
          · cases z
          · exact z
      · rw [if_pos (Or.inl ⟨h3, h4⟩), decide_eq_false h3, decide_eq_false h4]
        constructor
        · intro z; exact absurd rfl z
        · rintro (z | z) <;> cases z
theorem fnum_K : ∀ F : FT, fnum F = allK [] 3 F
  | .leaf => rfl
  | .inner _ i _ c n => by
    show (decide (i.1 = 3) && fnum n) = (decide (rkind [] i c = 3) && allK [] 3 n)
    rw [fnum_K n]
    rfl
theorem jw_wt1 {β : Bool} {H : jx_H} {w : Nat} (hw : w < 9) : jx_get (jz β) H (jx_big + w) 1 = some (.int (jw_taL.getD w 0)) := by
  unfold jx_get
  rw [if_neg (by omega), Nat.add_sub_cancel_left]
  exact if_pos hw
theorem jw_tkE : ∀ (w : Fin 9) (k : Fin 7), (jw_taL.getD w.1 0 >>> (Int32.ofInt (k.1 : Int) &&& 31)) &&& Int32.ofInt 1 = Int32.ofInt (if fitS (w.1 : Int) (k.1 : Int) = true then 1 else 0) := by decide +kernel
theorem jw_tka {β : Bool} {cd : Nat → Option Instr} {own pc : Nat} {rt : Option FieldType × Bool} {lo : jx_L} {st : List Value} {H : jx_H} {w : Nat} {kd : Int} (hw : w < 9) (hk : 0 ≤ kd ∧ kd ≤ 6) : jx_do (jz β) cd own pc rt .iand lo (.int (Int32.ofInt 1) :: .int (jw_taL.getD w 0 >>> (Int32.ofInt kd &&& 31)) :: st) H = some (.inl (pc + 1, lo, .int (Int32.ofInt (if fitS (w : Int) kd = true then 1 else 0)) :: st, H)) := by
  have e := jw_tkE ⟨w, hw⟩ ⟨kd.toNat, by omega⟩
  have e2 : ((kd.toNat : Nat) : Int) = kd := by omega
  have e : (jw_taL.getD w 0 >>> (Int32.ofInt ((kd.toNat : Nat) : Int) &&& 31)) &&& Int32.ofInt 1 = Int32.ofInt (if fitS (w : Int) ((kd.toNat : Nat) : Int) = true then 1 else 0) := e
  rw [e2] at e
  simp only [jx_do, e]
theorem jc_tk {β : Bool} {d : Nat} {h : jx_H} {κ : mS} (hl : 50 ≤ h.length) {w : Nat} {kd : Int} (hw : w < 9) (hk : 0 ≤ kd ∧ kd ≤ 6) : jx_r (jz β) jw_M (d) 176 (0, [some (.ref (jx_big + w)), some (.int (Int32.ofInt (kd)))], [], (cl_mk h κ)) (cl_mk h (κ), .inl (some (.int (Int32.ofInt (if fitS (w : Int) kd = true then 1 else 0))))) := by
  refine jr_1 jm_176 (show jw_cd cd_176 0 = some (.aload_n 0) by decide +kernel) rfl ?_
  refine jr_1 jm_176 (show jw_cd cd_176 1 = some (.getfield 56) by decide +kernel) (cgf (jw_wc hw) (show jw_fld 29 56 17 = some 1 by decide +kernel) (jw_wt1 hw)) ?_
  refine jr_1 jm_176 (show jw_cd cd_176 4 = some (.iload_n 1) by decide +kernel) rfl ?_
  refine jr_1 jm_176 (show jw_cd cd_176 5 = some (.ishr) by decide +kernel) rfl ?_
  refine jr_1 jm_176 (show jw_cd cd_176 6 = some (.iconst 1) by decide +kernel) rfl ?_
  refine jr_1 jm_176 (show jw_cd cd_176 7 = some (.iand) by decide +kernel) (jw_tka hw hk) ?_
  refine jr_1 jm_176 (show jw_cd cd_176 8 = some (.iconst 1) by decide +kernel) rfl ?_
  obtain ⟨fb, efb⟩ : ∃ fb : Int, fb = if fitS (w : Int) kd = true then 1 else 0 := ⟨_, rfl⟩
  rw [← efb]
  have h01 : fb = 0 ∨ fb = 1 := by rw [efb]; exact bi_z _
  rcases h01 with h0 | h0
  · rw [h0]
    refine jr_1 jm_176 (show jw_cd cd_176 9 = some (.if_icmp .ne 7) by decide +kernel) (mb_t (q := .ne) (a := 0) (b := 1) (t := 16) (by show ¬ (0 = 1); omega) ⟨by omega, by omega⟩ ⟨by omega, by omega⟩ (by decide) (by decide)) ?_
    refine jr_1 jm_176 (show jw_cd cd_176 16 = some (.iconst 0) by decide +kernel) rfl ?_
    exact jr_v jm_176 (show jw_cd cd_176 17 = some (.ireturn) by decide +kernel) rfl
  · rw [h0]
    refine jr_1 jm_176 (show jw_cd cd_176 9 = some (.if_icmp .ne 7) by decide +kernel) (mb_f (q := .ne) (a := 1) (b := 1) (by show ¬ (¬ (1 = 1)); omega) ⟨by omega, by omega⟩ ⟨by omega, by omega⟩ (by decide)) ?_
    refine jr_1 jm_176 (show jw_cd cd_176 12 = some (.iconst 1) by decide +kernel) rfl ?_
    refine jr_1 jm_176 (show jw_cd cd_176 13 = some (.goto 4) by decide +kernel) (ju_go (t := 17) (by decide)) ?_
    exact jr_v jm_176 (show jw_cd cd_176 17 = some (.ireturn) by decide +kernel) rfl
section CF
variable {β : Bool} {cd : Nat → Option Instr} {own pc : Nat} {rt : Option FieldType × Bool} {lo : jx_L} {st : List Value} {H : jx_H}
theorem cac_eq_f {a b : Nat} {off : Int} (hab : ¬ a = b) (hn : jx_ne (jz β) a b = true) (h0 : 0 ≤ (pc : Int) + off) : jx_do (jz β) cd own pc rt (.if_acmp .eq off) lo (.ref b :: .ref a :: st) H = some (.inl (pc + 3, lo, st, H)) := by
  simp only [jx_do, if_neg hab, hn, if_true, jx_holdA, jx_br, if_pos h0]
theorem cac_eq_tE {a b t : Nat} {off : Int} (hab : a = b) (h0 : 0 ≤ (pc : Int) + off) (ht : jx_to pc off = some t) : jx_do (jz β) cd own pc rt (.if_acmp .eq off) lo (.ref b :: .ref a :: st) H = some (.inl (t, lo, st, H)) := by
  subst hab
  exact cac_eq_t h0 ht
theorem cac_ne_fE {a b : Nat} {off : Int} (hab : a = b) (h0 : 0 ≤ (pc : Int) + off) : jx_do (jz β) cd own pc rt (.if_acmp .ne off) lo (.ref b :: .ref a :: st) H = some (.inl (pc + 3, lo, st, H)) := by
  subst hab
  exact cac_ne_f h0
end CF
theorem jc_fail {β : Bool} {d : Nat} {h : jx_H} {κ : mS} (hl : 50 ≤ h.length) {X Y : Nat → Prop} {v t0 w : Nat} {i : tI} {F : FT} {s : List Int} (hv : vO h κ X v i F) (hi : iok i) (hwf : fwf F) (ht : strR h Y t0 s) (hs : tx s) (hw9 : w < 9) (hky : ¬ w = 3 → s = []) : jx_r (jz β) jw_M (d + 5) 175 (0, [some (.ref 11), some (.ref (jx_big + w)), some (.ref v), some (.ref t0), none], [], (cl_mk h κ)) (cl_mk h (κ), .inl (some (.int (Int32.ofInt ((doS (w : Int) s (i, F)).1))))) := by
  obtain ⟨l0, t, ka, ia, kc, ic, f, g, ⟨l1, l2⟩, hA, hS, hK, hI, ⟨s1, s2⟩, or, hF⟩ := id hv
  have c0 := jc_tk (β := β) (d := d + 4) (h := h) (κ := κ) (kd := i.1) hl hw9 ⟨hi.1, hi.2.1⟩
  obtain ⟨fb, efb⟩ : ∃ fb : Int, fb = if fitS (w : Int) i.1 = true then 1 else 0 := ⟨_, rfl⟩
  rw [← efb] at c0
  by_cases hfit : fitS (w : Int) i.1 = true
  rotate_left
  · have hfb : fb = 0 := by rw [efb, if_neg hfit]
    have hres : (doS (w : Int) s (i, F)).1 = 1 := by
      unfold doS
      rw [if_neg hfit]
    rw [hres]
    refine jr_1 jm_175 (show jw_cd cd_175 0 = some (.aload_n 1) by decide +kernel) rfl ?_
    refine jr_1 jm_175 (show jw_cd cd_175 1 = some (.aload_n 2) by decide +kernel) rfl ?_
    refine jr_1 jm_175 (show jw_cd cd_175 2 = some (.getfield 15) by decide +kernel) (js_getf hA (jbg (by omega)) (show jw_fld 10 15 5 = some 0 by decide +kernel) rfl) ?_
    refine jr_c jm_175 (show jw_cd cd_175 5 = some (.invokevirtual 21) by decide +kernel) (ccv (n := 1) (m2 := 176) (ci := 17) (a := jx_big + w) (bs := [.int (Int32.ofInt (i.1))]) (r := []) (jw_wc hw9) (show jw_find jw_cvT 10 21 = some (1, [(17, 176)]) by decide +kernel) (by decide) rfl rfl rfl) jm_176 ⟨Nat.le_of_ble_eq_true rfl, by decide⟩ c0 ?_
    refine jr_1 jm_175 (show jw_cd cd_175 8 = some (.ifCond .ne 5) by decide +kernel) (mz_f (q := .ne) (a := fb) (by show ¬ (¬ (fb = 0)); omega) ⟨by omega, by omega⟩ (by decide)) ?_
    refine jr_1 jm_175 (show jw_cd cd_175 11 = some (.iconst 1) by decide +kernel) rfl ?_
    exact jr_v jm_175 (show jw_cd cd_175 12 = some (.ireturn) by decide +kernel) rfl
  have hfb : fb = 1 := by rw [efb, if_pos hfit]
  have c3 := jc_all (β := β) (d := d) (κ := κ) (kd := 3) hl hv hwf ht hs (by decide)
  have c4 := jc_all (β := β) (d := d) (κ := κ) (kd := 4) hl hv hwf ht hs (by decide)
  by_cases h3 : w = 3
  · have hww : (w : Int) = 3 := by omega
    have hE3 : jx_big + w = jx_big + 3 := by omega
    have hN5 : ¬ jx_big + w = jx_big + 5 := by omega
    have hN6 : ¬ jx_big + w = jx_big + 6 := by omega
    have hN7 : ¬ jx_big + w = jx_big + 7 := by omega
    have hres : (doS (w : Int) s (i, F)).1 = if fsort s 0 F = -1 then 2 else 0 := by
      unfold doS
      rw [if_pos hfit]
      simp only [hww]
      by_cases hz : fsort s 0 F = -1
      · rw [if_pos hz]
        simp [hz]
      · rw [if_neg hz]
        simp [hz]
    rw [hres]
    have hK := fsort_0 (s := s) F
    by_cases a3 : allK s 3 F = true
    · rw [if_neg (hK.mpr (Or.inl a3))]
      rw [if_pos a3] at c3
      refine jr_1 jm_175 (show jw_cd cd_175 0 = some (.aload_n 1) by decide +kernel) rfl ?_
      refine jr_1 jm_175 (show jw_cd cd_175 1 = some (.aload_n 2) by decide +kernel) rfl ?_
      refine jr_1 jm_175 (show jw_cd cd_175 2 = some (.getfield 15) by decide +kernel) (js_getf hA (jbg (by omega)) (show jw_fld 10 15 5 = some 0 by decide +kernel) rfl) ?_
      refine jr_c jm_175 (show jw_cd cd_175 5 = some (.invokevirtual 21) by decide +kernel) (ccv (n := 1) (m2 := 176) (ci := 17) (a := jx_big + w) (bs := [.int (Int32.ofInt (i.1))]) (r := []) (jw_wc hw9) (show jw_find jw_cvT 10 21 = some (1, [(17, 176)]) by decide +kernel) (by decide) rfl rfl rfl) jm_176 ⟨Nat.le_of_ble_eq_true rfl, by decide⟩ c0 ?_
      refine jr_1 jm_175 (show jw_cd cd_175 8 = some (.ifCond .ne 5) by decide +kernel) (mz_t (q := .ne) (a := fb) (t := 13) (by show ¬ (fb = 0); omega) ⟨by omega, by omega⟩ (by decide) (by decide)) ?_
      refine jr_1 jm_175 (show jw_cd cd_175 13 = some (.iconst 1) by decide +kernel) rfl ?_
      refine jr_1 jm_175 (F2 := (16, [some (.ref 11), some (.ref (jx_big + w)), some (.ref v), some (.ref t0), some (.int (Int32.ofInt (1)))], [], (cl_mk h κ))) (show jw_cd cd_175 14 = some (.istore 4) by decide +kernel) rfl ?_
      refine jr_1 jm_175 (show jw_cd cd_175 16 = some (.aload_n 1) by decide +kernel) rfl ?_
      refine jr_1 jm_175 (show jw_cd cd_175 17 = some (.getstatic 27) by decide +kernel) (cgs (v := .ref (jx_big + 5)) (by decide) rfl) ?_
      refine jr_1 jm_175 (show jw_cd cd_175 20 = some (.if_acmp .ne 12) by decide +kernel) (cac_ne_t (t := 32) hN5 (jx_neW hw9 (by decide)) (by decide) (by decide)) ?_
      refine jr_1 jm_175 (show jw_cd cd_175 32 = some (.aload_n 1) by decide +kernel) rfl ?_
      refine jr_1 jm_175 (show jw_cd cd_175 33 = some (.getstatic 35) by decide +kernel) (cgs (v := .ref (jx_big + 3)) (by decide) rfl) ?_
      refine jr_1 jm_175 (show jw_cd cd_175 36 = some (.if_acmp .eq 17) by decide +kernel) (cac_eq_tE (t := 53) hE3 (by decide) (by decide)) ?_
      refine jr_1 jm_175 (show jw_cd cd_175 53 = some (.aload_n 0) by decide +kernel) rfl ?_
      refine jr_1 jm_175 (show jw_cd cd_175 54 = some (.aload_n 2) by decide +kernel) rfl ?_
      refine jr_1 jm_175 (show jw_cd cd_175 55 = some (.aload_n 3) by decide +kernel) rfl ?_
      refine jr_1 jm_175 (show jw_cd cd_175 56 = some (.iconst 3) by decide +kernel) rfl ?_
      refine jr_c jm_175 (show jw_cd cd_175 57 = some (.invokevirtual 31) by decide +kernel) (ccv (n := 3) (m2 := 177) (ci := 7) (a := 11) (bs := [.ref v, .ref t0, .int (Int32.ofInt (3))]) (r := []) (js_cls cl_c11 (by decide)) (show jw_find jw_cvT 10 31 = some (3, [(7, 177)]) by decide +kernel) (by decide) rfl rfl rfl) jm_177 ⟨Nat.le_of_ble_eq_true rfl, by decide⟩ c3 ?_
      refine jr_1 jm_175 (show jw_cd cd_175 60 = some (.ifCond .ne 13) by decide +kernel) (mz_t (q := .ne) (a := 1) (t := 73) (by show ¬ (1 = 0); omega) ⟨by omega, by omega⟩ (by decide) (by decide)) ?_
      refine jr_1 jm_175 (show jw_cd cd_175 73 = some (.iconst 1) by decide +kernel) rfl ?_
      refine jr_1 jm_175 (show jw_cd cd_175 74 = some (.goto 4) by decide +kernel) (ju_go (t := 78) (by decide)) ?_
      refine jr_1 jm_175 (F2 := (80, [some (.ref 11), some (.ref (jx_big + w)), some (.ref v), some (.ref t0), some (.int (Int32.ofInt (1)))], [], (cl_mk h κ))) (show jw_cd cd_175 78 = some (.istore 4) by decide +kernel) rfl ?_
      refine jr_1 jm_175 (show jw_cd cd_175 80 = some (.iload 4) by decide +kernel) rfl ?_
      refine jr_1 jm_175 (show jw_cd cd_175 82 = some (.ifCond .eq 7) by decide +kernel) (mz_f (q := .eq) (a := 1) (by show ¬ (1 = 0); omega) ⟨by omega, by omega⟩ (by decide)) ?_
      refine jr_1 jm_175 (show jw_cd cd_175 85 = some (.iconst 0) by decide +kernel) rfl ?_
      refine jr_1 jm_175 (show jw_cd cd_175 86 = some (.goto 4) by decide +kernel) (ju_go (t := 90) (by decide)) ?_
      exact jr_v jm_175 (show jw_cd cd_175 90 = some (.ireturn) by decide +kernel) rfl
    · rw [if_neg a3] at c3
      by_cases a4 : allK s 4 F = true
      · rw [if_neg (hK.mpr (Or.inr a4))]
        rw [if_pos a4] at c4
        refine jr_1 jm_175 (show jw_cd cd_175 0 = some (.aload_n 1) by decide +kernel) rfl ?_
        refine jr_1 jm_175 (show jw_cd cd_175 1 = some (.aload_n 2) by decide +kernel) rfl ?_
        refine jr_1 jm_175 (show jw_cd cd_175 2 = some (.getfield 15) by decide +kernel) (js_getf hA (jbg (by omega)) (show jw_fld 10 15 5 = some 0 by decide +kernel) rfl) ?_
        refine jr_c jm_175 (show jw_cd cd_175 5 = some (.invokevirtual 21) by decide +kernel) (ccv (n := 1) (m2 := 176) (ci := 17) (a := jx_big + w) (bs := [.int (Int32.ofInt (i.1))]) (r := []) (jw_wc hw9) (show jw_find jw_cvT 10 21 = some (1, [(17, 176)]) by decide +kernel) (by decide) rfl rfl rfl) jm_176 ⟨Nat.le_of_ble_eq_true rfl, by decide⟩ c0 ?_
        refine jr_1 jm_175 (show jw_cd cd_175 8 = some (.ifCond .ne 5) by decide +kernel) (mz_t (q := .ne) (a := fb) (t := 13) (by show ¬ (fb = 0); omega) ⟨by omega, by omega⟩ (by decide) (by decide)) ?_
        refine jr_1 jm_175 (show jw_cd cd_175 13 = some (.iconst 1) by decide +kernel) rfl ?_
        refine jr_1 jm_175 (F2 := (16, [some (.ref 11), some (.ref (jx_big + w)), some (.ref v), some (.ref t0), some (.int (Int32.ofInt (1)))], [], (cl_mk h κ))) (show jw_cd cd_175 14 = some (.istore 4) by decide +kernel) rfl ?_
        refine jr_1 jm_175 (show jw_cd cd_175 16 = some (.aload_n 1) by decide +kernel) rfl ?_
        refine jr_1 jm_175 (show jw_cd cd_175 17 = some (.getstatic 27) by decide +kernel) (cgs (v := .ref (jx_big + 5)) (by decide) rfl) ?_
        refine jr_1 jm_175 (show jw_cd cd_175 20 = some (.if_acmp .ne 12) by decide +kernel) (cac_ne_t (t := 32) hN5 (jx_neW hw9 (by decide)) (by decide) (by decide)) ?_
        refine jr_1 jm_175 (show jw_cd cd_175 32 = some (.aload_n 1) by decide +kernel) rfl ?_
        refine jr_1 jm_175 (show jw_cd cd_175 33 = some (.getstatic 35) by decide +kernel) (cgs (v := .ref (jx_big + 3)) (by decide) rfl) ?_
        refine jr_1 jm_175 (show jw_cd cd_175 36 = some (.if_acmp .eq 17) by decide +kernel) (cac_eq_tE (t := 53) hE3 (by decide) (by decide)) ?_
        refine jr_1 jm_175 (show jw_cd cd_175 53 = some (.aload_n 0) by decide +kernel) rfl ?_
        refine jr_1 jm_175 (show jw_cd cd_175 54 = some (.aload_n 2) by decide +kernel) rfl ?_
        refine jr_1 jm_175 (show jw_cd cd_175 55 = some (.aload_n 3) by decide +kernel) rfl ?_
        refine jr_1 jm_175 (show jw_cd cd_175 56 = some (.iconst 3) by decide +kernel) rfl ?_
        refine jr_c jm_175 (show jw_cd cd_175 57 = some (.invokevirtual 31) by decide +kernel) (ccv (n := 3) (m2 := 177) (ci := 7) (a := 11) (bs := [.ref v, .ref t0, .int (Int32.ofInt (3))]) (r := []) (js_cls cl_c11 (by decide)) (show jw_find jw_cvT 10 31 = some (3, [(7, 177)]) by decide +kernel) (by decide) rfl rfl rfl) jm_177 ⟨Nat.le_of_ble_eq_true rfl, by decide⟩ c3 ?_
        refine jr_1 jm_175 (show jw_cd cd_175 60 = some (.ifCond .ne 13) by decide +kernel) (mz_f (q := .ne) (a := 0) (by show ¬ (¬ (0 = 0)); omega) ⟨by omega, by omega⟩ (by decide)) ?_
        refine jr_1 jm_175 (show jw_cd cd_175 63 = some (.aload_n 0) by decide +kernel) rfl ?_
        refine jr_1 jm_175 (show jw_cd cd_175 64 = some (.aload_n 2) by decide +kernel) rfl ?_
        refine jr_1 jm_175 (show jw_cd cd_175 65 = some (.aload_n 3) by decide +kernel) rfl ?_
        refine jr_1 jm_175 (show jw_cd cd_175 66 = some (.iconst 4) by decide +kernel) rfl ?_
        refine jr_c jm_175 (show jw_cd cd_175 67 = some (.invokevirtual 31) by decide +kernel) (ccv (n := 3) (m2 := 177) (ci := 7) (a := 11) (bs := [.ref v, .ref t0, .int (Int32.ofInt (4))]) (r := []) (js_cls cl_c11 (by decide)) (show jw_find jw_cvT 10 31 = some (3, [(7, 177)]) by decide +kernel) (by decide) rfl rfl rfl) jm_177 ⟨Nat.le_of_ble_eq_true rfl, by decide⟩ c4 ?_
        refine jr_1 jm_175 (show jw_cd cd_175 70 = some (.ifCond .eq 7) by decide +kernel) (mz_f (q := .eq) (a := 1) (by show ¬ (1 = 0); omega) ⟨by omega, by omega⟩ (by decide)) ?_
        refine jr_1 jm_175 (show jw_cd cd_175 73 = some (.iconst 1) by decide +kernel) rfl ?_
        refine jr_1 jm_175 (show jw_cd cd_175 74 = some (.goto 4) by decide +kernel) (ju_go (t := 78) (by decide)) ?_
        refine jr_1 jm_175 (F2 := (80, [some (.ref 11), some (.ref (jx_big + w)), some (.ref v), some (.ref t0), some (.int (Int32.ofInt (1)))], [], (cl_mk h κ))) (show jw_cd cd_175 78 = some (.istore 4) by decide +kernel) rfl ?_
        refine jr_1 jm_175 (show jw_cd cd_175 80 = some (.iload 4) by decide +kernel) rfl ?_
        refine jr_1 jm_175 (show jw_cd cd_175 82 = some (.ifCond .eq 7) by decide +kernel) (mz_f (q := .eq) (a := 1) (by show ¬ (1 = 0); omega) ⟨by omega, by omega⟩ (by decide)) ?_
        refine jr_1 jm_175 (show jw_cd cd_175 85 = some (.iconst 0) by decide +kernel) rfl ?_
        refine jr_1 jm_175 (show jw_cd cd_175 86 = some (.goto 4) by decide +kernel) (ju_go (t := 90) (by decide)) ?_
        exact jr_v jm_175 (show jw_cd cd_175 90 = some (.ireturn) by decide +kernel) rfl
      · rw [if_pos (Classical.byContradiction (fun z => by rcases hK.mp z with q | q; exact a3 q; exact a4 q))]
        rw [if_neg a4] at c4
        refine jr_1 jm_175 (show jw_cd cd_175 0 = some (.aload_n 1) by decide +kernel) rfl ?_
        refine jr_1 jm_175 (show jw_cd cd_175 1 = some (.aload_n 2) by decide +kernel) rfl ?_
        refine jr_1 jm_175 (show jw_cd cd_175 2 = some (.getfield 15) by decide +kernel) (js_getf hA (jbg (by omega)) (show jw_fld 10 15 5 = some 0 by decide +kernel) rfl) ?_
        refine jr_c jm_175 (show jw_cd cd_175 5 = some (.invokevirtual 21) by decide +kernel) (ccv (n := 1) (m2 := 176) (ci := 17) (a := jx_big + w) (bs := [.int (Int32.ofInt (i.1))]) (r := []) (jw_wc hw9) (show jw_find jw_cvT 10 21 = some (1, [(17, 176)]) by decide +kernel) (by decide) rfl rfl rfl) jm_176 ⟨Nat.le_of_ble_eq_true rfl, by decide⟩ c0 ?_
        refine jr_1 jm_175 (show jw_cd cd_175 8 = some (.ifCond .ne 5) by decide +kernel) (mz_t (q := .ne) (a := fb) (t := 13) (by show ¬ (fb = 0); omega) ⟨by omega, by omega⟩ (by decide) (by decide)) ?_
        refine jr_1 jm_175 (show jw_cd cd_175 13 = some (.iconst 1) by decide +kernel) rfl ?_
        refine jr_1 jm_175 (F2 := (16, [some (.ref 11), some (.ref (jx_big + w)), some (.ref v), some (.ref t0), some (.int (Int32.ofInt (1)))], [], (cl_mk h κ))) (show jw_cd cd_175 14 = some (.istore 4) by decide +kernel) rfl ?_
        refine jr_1 jm_175 (show jw_cd cd_175 16 = some (.aload_n 1) by decide +kernel) rfl ?_
        refine jr_1 jm_175 (show jw_cd cd_175 17 = some (.getstatic 27) by decide +kernel) (cgs (v := .ref (jx_big + 5)) (by decide) rfl) ?_
        refine jr_1 jm_175 (show jw_cd cd_175 20 = some (.if_acmp .ne 12) by decide +kernel) (cac_ne_t (t := 32) hN5 (jx_neW hw9 (by decide)) (by decide) (by decide)) ?_
        refine jr_1 jm_175 (show jw_cd cd_175 32 = some (.aload_n 1) by decide +kernel) rfl ?_
        refine jr_1 jm_175 (show jw_cd cd_175 33 = some (.getstatic 35) by decide +kernel) (cgs (v := .ref (jx_big + 3)) (by decide) rfl) ?_
        refine jr_1 jm_175 (show jw_cd cd_175 36 = some (.if_acmp .eq 17) by decide +kernel) (cac_eq_tE (t := 53) hE3 (by decide) (by decide)) ?_
        refine jr_1 jm_175 (show jw_cd cd_175 53 = some (.aload_n 0) by decide +kernel) rfl ?_
        refine jr_1 jm_175 (show jw_cd cd_175 54 = some (.aload_n 2) by decide +kernel) rfl ?_
        refine jr_1 jm_175 (show jw_cd cd_175 55 = some (.aload_n 3) by decide +kernel) rfl ?_
        refine jr_1 jm_175 (show jw_cd cd_175 56 = some (.iconst 3) by decide +kernel) rfl ?_
        refine jr_c jm_175 (show jw_cd cd_175 57 = some (.invokevirtual 31) by decide +kernel) (ccv (n := 3) (m2 := 177) (ci := 7) (a := 11) (bs := [.ref v, .ref t0, .int (Int32.ofInt (3))]) (r := []) (js_cls cl_c11 (by decide)) (show jw_find jw_cvT 10 31 = some (3, [(7, 177)]) by decide +kernel) (by decide) rfl rfl rfl) jm_177 ⟨Nat.le_of_ble_eq_true rfl, by decide⟩ c3 ?_
        refine jr_1 jm_175 (show jw_cd cd_175 60 = some (.ifCond .ne 13) by decide +kernel) (mz_f (q := .ne) (a := 0) (by show ¬ (¬ (0 = 0)); omega) ⟨by omega, by omega⟩ (by decide)) ?_
        refine jr_1 jm_175 (show jw_cd cd_175 63 = some (.aload_n 0) by decide +kernel) rfl ?_
        refine jr_1 jm_175 (show jw_cd cd_175 64 = some (.aload_n 2) by decide +kernel) rfl ?_
        refine jr_1 jm_175 (show jw_cd cd_175 65 = some (.aload_n 3) by decide +kernel) rfl ?_
        refine jr_1 jm_175 (show jw_cd cd_175 66 = some (.iconst 4) by decide +kernel) rfl ?_
        refine jr_c jm_175 (show jw_cd cd_175 67 = some (.invokevirtual 31) by decide +kernel) (ccv (n := 3) (m2 := 177) (ci := 7) (a := 11) (bs := [.ref v, .ref t0, .int (Int32.ofInt (4))]) (r := []) (js_cls cl_c11 (by decide)) (show jw_find jw_cvT 10 31 = some (3, [(7, 177)]) by decide +kernel) (by decide) rfl rfl rfl) jm_177 ⟨Nat.le_of_ble_eq_true rfl, by decide⟩ c4 ?_
        refine jr_1 jm_175 (show jw_cd cd_175 70 = some (.ifCond .eq 7) by decide +kernel) (mz_t (q := .eq) (a := 0) (t := 77) (by show 0 = 0; omega) ⟨by omega, by omega⟩ (by decide) (by decide)) ?_
        refine jr_1 jm_175 (show jw_cd cd_175 77 = some (.iconst 0) by decide +kernel) rfl ?_
        refine jr_1 jm_175 (F2 := (80, [some (.ref 11), some (.ref (jx_big + w)), some (.ref v), some (.ref t0), some (.int (Int32.ofInt (0)))], [], (cl_mk h κ))) (show jw_cd cd_175 78 = some (.istore 4) by decide +kernel) rfl ?_
        refine jr_1 jm_175 (show jw_cd cd_175 80 = some (.iload 4) by decide +kernel) rfl ?_
        refine jr_1 jm_175 (show jw_cd cd_175 82 = some (.ifCond .eq 7) by decide +kernel) (mz_t (q := .eq) (a := 0) (t := 89) (by show 0 = 0; omega) ⟨by omega, by omega⟩ (by decide) (by decide)) ?_
        refine jr_1 jm_175 (show jw_cd cd_175 89 = some (.iconst 2) by decide +kernel) rfl ?_
        exact jr_v jm_175 (show jw_cd cd_175 90 = some (.ireturn) by decide +kernel) rfl
  by_cases h6 : w = 6
  · have hww : (w : Int) = 6 := by omega
    have hE6 : jx_big + w = jx_big + 6 := by omega
    have hN3 : ¬ jx_big + w = jx_big + 3 := by omega
    have hN5 : ¬ jx_big + w = jx_big + 5 := by omega
    have hN7 : ¬ jx_big + w = jx_big + 7 := by omega
    have hres : (doS (w : Int) s (i, F)).1 = if fsort s 0 F = -1 then 2 else 0 := by
      unfold doS
      rw [if_pos hfit]
      simp only [hww]
      by_cases hz : fsort s 0 F = -1
      · rw [if_pos hz]
        simp [hz]
      · rw [if_neg hz]
        simp [hz]
    rw [hres]
    have hK := fsort_0 (s := s) F
    by_cases a3 : allK s 3 F = true
    · rw [if_neg (hK.mpr (Or.inl a3))]
      rw [if_pos a3] at c3
      refine jr_1 jm_175 (show jw_cd cd_175 0 = some (.aload_n 1) by decide +kernel) rfl ?_
      refine jr_1 jm_175 (show jw_cd cd_175 1 = some (.aload_n 2) by decide +kernel) rfl ?_
      refine jr_1 jm_175 (show jw_cd cd_175 2 = some (.getfield 15) by decide +kernel) (js_getf hA (jbg (by omega)) (show jw_fld 10 15 5 = some 0 by decide +kernel) rfl) ?_
      refine jr_c jm_175 (show jw_cd cd_175 5 = some (.invokevirtual 21) by decide +kernel) (ccv (n := 1) (m2 := 176) (ci := 17) (a := jx_big + w) (bs := [.int (Int32.ofInt (i.1))]) (r := []) (jw_wc hw9) (show jw_find jw_cvT 10 21 = some (1, [(17, 176)]) by decide +kernel) (by decide) rfl rfl rfl) jm_176 ⟨Nat.le_of_ble_eq_true rfl, by decide⟩ c0 ?_
      refine jr_1 jm_175 (show jw_cd cd_175 8 = some (.ifCond .ne 5) by decide +kernel) (mz_t (q := .ne) (a := fb) (t := 13) (by show ¬ (fb = 0); omega) ⟨by omega, by omega⟩ (by decide) (by decide)) ?_
      refine jr_1 jm_175 (show jw_cd cd_175 13 = some (.iconst 1) by decide +kernel) rfl ?_
      refine jr_1 jm_175 (F2 := (16, [some (.ref 11), some (.ref (jx_big + w)), some (.ref v), some (.ref t0), some (.int (Int32.ofInt (1)))], [], (cl_mk h κ))) (show jw_cd cd_175 14 = some (.istore 4) by decide +kernel) rfl ?_
      refine jr_1 jm_175 (show jw_cd cd_175 16 = some (.aload_n 1) by decide +kernel) rfl ?_
      refine jr_1 jm_175 (show jw_cd cd_175 17 = some (.getstatic 27) by decide +kernel) (cgs (v := .ref (jx_big + 5)) (by decide) rfl) ?_
      refine jr_1 jm_175 (show jw_cd cd_175 20 = some (.if_acmp .ne 12) by decide +kernel) (cac_ne_t (t := 32) hN5 (jx_neW hw9 (by decide)) (by decide) (by decide)) ?_
      refine jr_1 jm_175 (show jw_cd cd_175 32 = some (.aload_n 1) by decide +kernel) rfl ?_
      refine jr_1 jm_175 (show jw_cd cd_175 33 = some (.getstatic 35) by decide +kernel) (cgs (v := .ref (jx_big + 3)) (by decide) rfl) ?_
      refine jr_1 jm_175 (show jw_cd cd_175 36 = some (.if_acmp .eq 17) by decide +kernel) (cac_eq_f hN3 (jx_neW hw9 (by decide)) (by decide)) ?_
      refine jr_1 jm_175 (show jw_cd cd_175 39 = some (.aload_n 1) by decide +kernel) rfl ?_
      refine jr_1 jm_175 (show jw_cd cd_175 40 = some (.getstatic 38) by decide +kernel) (cgs (v := .ref (jx_big + 6)) (by decide) rfl) ?_
      refine jr_1 jm_175 (show jw_cd cd_175 43 = some (.if_acmp .eq 10) by decide +kernel) (cac_eq_tE (t := 53) hE6 (by decide) (by decide)) ?_
      refine jr_1 jm_175 (show jw_cd cd_175 53 = some (.aload_n 0) by decide +kernel) rfl ?_
      refine jr_1 jm_175 (show jw_cd cd_175 54 = some (.aload_n 2) by decide +kernel) rfl ?_
      refine jr_1 jm_175 (show jw_cd cd_175 55 = some (.aload_n 3) by decide +kernel) rfl ?_
      refine jr_1 jm_175 (show jw_cd cd_175 56 = some (.iconst 3) by decide +kernel) rfl ?_
      refine jr_c jm_175 (show jw_cd cd_175 57 = some (.invokevirtual 31) by decide +kernel) (ccv (n := 3) (m2 := 177) (ci := 7) (a := 11) (bs := [.ref v, .ref t0, .int (Int32.ofInt (3))]) (r := []) (js_cls cl_c11 (by decide)) (show jw_find jw_cvT 10 31 = some (3, [(7, 177)]) by decide +kernel) (by decide) rfl rfl rfl) jm_177 ⟨Nat.le_of_ble_eq_true rfl, by decide⟩ c3 ?_
      refine jr_1 jm_175 (show jw_cd cd_175 60 = some (.ifCond .ne 13) by decide +kernel) (mz_t (q := .ne) (a := 1) (t := 73) (by show ¬ (1 = 0); omega) ⟨by omega, by omega⟩ (by decide) (by decide)) ?_
      refine jr_1 jm_175 (show jw_cd cd_175 73 = some (.iconst 1) by decide +kernel) rfl ?_
      refine jr_1 jm_175 (show jw_cd cd_175 74 = some (.goto 4) by decide +kernel) (ju_go (t := 78) (by decide)) ?_
      refine jr_1 jm_175 (F2 := (80, [some (.ref 11), some (.ref (jx_big + w)), some (.ref v), some (.ref t0), some (.int (Int32.ofInt (1)))], [], (cl_mk h κ))) (show jw_cd cd_175 78 = some (.istore 4) by decide +kernel) rfl ?_
      refine jr_1 jm_175 (show jw_cd cd_175 80 = some (.iload 4) by decide +kernel) rfl ?_
      refine jr_1 jm_175 (show jw_cd cd_175 82 = some (.ifCond .eq 7) by decide +kernel) (mz_f (q := .eq) (a := 1) (by show ¬ (1 = 0); omega) ⟨by omega, by omega⟩ (by decide)) ?_
      refine jr_1 jm_175 (show jw_cd cd_175 85 = some (.iconst 0) by decide +kernel) rfl ?_
      refine jr_1 jm_175 (show jw_cd cd_175 86 = some (.goto 4) by decide +kernel) (ju_go (t := 90) (by decide)) ?_
      exact jr_v jm_175 (show jw_cd cd_175 90 = some (.ireturn) by decide +kernel) rfl
    · rw [if_neg a3] at c3
      by_cases a4 : allK s 4 F = true
      · rw [if_neg (hK.mpr (Or.inr a4))]
        rw [if_pos a4] at c4
        refine jr_1 jm_175 (show jw_cd cd_175 0 = some (.aload_n 1) by decide +kernel) rfl ?_
        refine jr_1 jm_175 (show jw_cd cd_175 1 = some (.aload_n 2) by decide +kernel) rfl ?_
        refine jr_1 jm_175 (show jw_cd cd_175 2 = some (.getfield 15) by decide +kernel) (js_getf hA (jbg (by omega)) (show jw_fld 10 15 5 = some 0 by decide +kernel) rfl) ?_
        refine jr_c jm_175 (show jw_cd cd_175 5 = some (.invokevirtual 21) by decide +kernel) (ccv (n := 1) (m2 := 176) (ci := 17) (a := jx_big + w) (bs := [.int (Int32.ofInt (i.1))]) (r := []) (jw_wc hw9) (show jw_find jw_cvT 10 21 = some (1, [(17, 176)]) by decide +kernel) (by decide) rfl rfl rfl) jm_176 ⟨Nat.le_of_ble_eq_true rfl, by decide⟩ c0 ?_
        refine jr_1 jm_175 (show jw_cd cd_175 8 = some (.ifCond .ne 5) by decide +kernel) (mz_t (q := .ne) (a := fb) (t := 13) (by show ¬ (fb = 0); omega) ⟨by omega, by omega⟩ (by decide) (by decide)) ?_
        refine jr_1 jm_175 (show jw_cd cd_175 13 = some (.iconst 1) by decide +kernel) rfl ?_
        refine jr_1 jm_175 (F2 := (16, [some (.ref 11), some (.ref (jx_big + w)), some (.ref v), some (.ref t0), some (.int (Int32.ofInt (1)))], [], (cl_mk h κ))) (show jw_cd cd_175 14 = some (.istore 4) by decide +kernel) rfl ?_
        refine jr_1 jm_175 (show jw_cd cd_175 16 = some (.aload_n 1) by decide +kernel) rfl ?_
        refine jr_1 jm_175 (show jw_cd cd_175 17 = some (.getstatic 27) by decide +kernel) (cgs (v := .ref (jx_big + 5)) (by decide) rfl) ?_
        refine jr_1 jm_175 (show jw_cd cd_175 20 = some (.if_acmp .ne 12) by decide +kernel) (cac_ne_t (t := 32) hN5 (jx_neW hw9 (by decide)) (by decide) (by decide)) ?_
        refine jr_1 jm_175 (show jw_cd cd_175 32 = some (.aload_n 1) by decide +kernel) rfl ?_
        refine jr_1 jm_175 (show jw_cd cd_175 33 = some (.getstatic 35) by decide +kernel) (cgs (v := .ref (jx_big + 3)) (by decide) rfl) ?_
        refine jr_1 jm_175 (show jw_cd cd_175 36 = some (.if_acmp .eq 17) by decide +kernel) (cac_eq_f hN3 (jx_neW hw9 (by decide)) (by decide)) ?_
        refine jr_1 jm_175 (show jw_cd cd_175 39 = some (.aload_n 1) by decide +kernel) rfl ?_
        refine jr_1 jm_175 (show jw_cd cd_175 40 = some (.getstatic 38) by decide +kernel) (cgs (v := .ref (jx_big + 6)) (by decide) rfl) ?_
        refine jr_1 jm_175 (show jw_cd cd_175 43 = some (.if_acmp .eq 10) by decide +kernel) (cac_eq_tE (t := 53) hE6 (by decide) (by decide)) ?_
        refine jr_1 jm_175 (show jw_cd cd_175 53 = some (.aload_n 0) by decide +kernel) rfl ?_
        refine jr_1 jm_175 (show jw_cd cd_175 54 = some (.aload_n 2) by decide +kernel) rfl ?_
        refine jr_1 jm_175 (show jw_cd cd_175 55 = some (.aload_n 3) by decide +kernel) rfl ?_
        refine jr_1 jm_175 (show jw_cd cd_175 56 = some (.iconst 3) by decide +kernel) rfl ?_
        refine jr_c jm_175 (show jw_cd cd_175 57 = some (.invokevirtual 31) by decide +kernel) (ccv (n := 3) (m2 := 177) (ci := 7) (a := 11) (bs := [.ref v, .ref t0, .int (Int32.ofInt (3))]) (r := []) (js_cls cl_c11 (by decide)) (show jw_find jw_cvT 10 31 = some (3, [(7, 177)]) by decide +kernel) (by decide) rfl rfl rfl) jm_177 ⟨Nat.le_of_ble_eq_true rfl, by decide⟩ c3 ?_
        refine jr_1 jm_175 (show jw_cd cd_175 60 = some (.ifCond .ne 13) by decide +kernel) (mz_f (q := .ne) (a := 0) (by show ¬ (¬ (0 = 0)); omega) ⟨by omega, by omega⟩ (by decide)) ?_
        refine jr_1 jm_175 (show jw_cd cd_175 63 = some (.aload_n 0) by decide +kernel) rfl ?_
        refine jr_1 jm_175 (show jw_cd cd_175 64 = some (.aload_n 2) by decide +kernel) rfl ?_
        refine jr_1 jm_175 (show jw_cd cd_175 65 = some (.aload_n 3) by decide +kernel) rfl ?_
        refine jr_1 jm_175 (show jw_cd cd_175 66 = some (.iconst 4) by decide +kernel) rfl ?_
        refine jr_c jm_175 (show jw_cd cd_175 67 = some (.invokevirtual 31) by decide +kernel) (ccv (n := 3) (m2 := 177) (ci := 7) (a := 11) (bs := [.ref v, .ref t0, .int (Int32.ofInt (4))]) (r := []) (js_cls cl_c11 (by decide)) (show jw_find jw_cvT 10 31 = some (3, [(7, 177)]) by decide +kernel) (by decide) rfl rfl rfl) jm_177 ⟨Nat.le_of_ble_eq_true rfl, by decide⟩ c4 ?_
        refine jr_1 jm_175 (show jw_cd cd_175 70 = some (.ifCond .eq 7) by decide +kernel) (mz_f (q := .eq) (a := 1) (by show ¬ (1 = 0); omega) ⟨by omega, by omega⟩ (by decide)) ?_
        refine jr_1 jm_175 (show jw_cd cd_175 73 = some (.iconst 1) by decide +kernel) rfl ?_
        refine jr_1 jm_175 (show jw_cd cd_175 74 = some (.goto 4) by decide +kernel) (ju_go (t := 78) (by decide)) ?_
        refine jr_1 jm_175 (F2 := (80, [some (.ref 11), some (.ref (jx_big + w)), some (.ref v), some (.ref t0), some (.int (Int32.ofInt (1)))], [], (cl_mk h κ))) (show jw_cd cd_175 78 = some (.istore 4) by decide +kernel) rfl ?_
        refine jr_1 jm_175 (show jw_cd cd_175 80 = some (.iload 4) by decide +kernel) rfl ?_
        refine jr_1 jm_175 (show jw_cd cd_175 82 = some (.ifCond .eq 7) by decide +kernel) (mz_f (q := .eq) (a := 1) (by show ¬ (1 = 0); omega) ⟨by omega, by omega⟩ (by decide)) ?_
        refine jr_1 jm_175 (show jw_cd cd_175 85 = some (.iconst 0) by decide +kernel) rfl ?_
        refine jr_1 jm_175 (show jw_cd cd_175 86 = some (.goto 4) by decide +kernel) (ju_go (t := 90) (by decide)) ?_
        exact jr_v jm_175 (show jw_cd cd_175 90 = some (.ireturn) by decide +kernel) rfl
      · rw [if_pos (Classical.byContradiction (fun z => by rcases hK.mp z with q | q; exact a3 q; exact a4 q))]
        rw [if_neg a4] at c4
        refine jr_1 jm_175 (show jw_cd cd_175 0 = some (.aload_n 1) by decide +kernel) rfl ?_
        refine jr_1 jm_175 (show jw_cd cd_175 1 = some (.aload_n 2) by decide +kernel) rfl ?_
        refine jr_1 jm_175 (show jw_cd cd_175 2 = some (.getfield 15) by decide +kernel) (js_getf hA (jbg (by omega)) (show jw_fld 10 15 5 = some 0 by decide +kernel) rfl) ?_
        refine jr_c jm_175 (show jw_cd cd_175 5 = some (.invokevirtual 21) by decide +kernel) (ccv (n := 1) (m2 := 176) (ci := 17) (a := jx_big + w) (bs := [.int (Int32.ofInt (i.1))]) (r := []) (jw_wc hw9) (show jw_find jw_cvT 10 21 = some (1, [(17, 176)]) by decide +kernel) (by decide) rfl rfl rfl) jm_176 ⟨Nat.le_of_ble_eq_true rfl, by decide⟩ c0 ?_
        refine jr_1 jm_175 (show jw_cd cd_175 8 = some (.ifCond .ne 5) by decide +kernel) (mz_t (q := .ne) (a := fb) (t := 13) (by show ¬ (fb = 0); omega) ⟨by omega, by omega⟩ (by decide) (by decide)) ?_
        refine jr_1 jm_175 (show jw_cd cd_175 13 = some (.iconst 1) by decide +kernel) rfl ?_
        refine jr_1 jm_175 (F2 := (16, [some (.ref 11), some (.ref (jx_big + w)), some (.ref v), some (.ref t0), some (.int (Int32.ofInt (1)))], [], (cl_mk h κ))) (show jw_cd cd_175 14 = some (.istore 4) by decide +kernel) rfl ?_
        refine jr_1 jm_175 (show jw_cd cd_175 16 = some (.aload_n 1) by decide +kernel) rfl ?_
        refine jr_1 jm_175 (show jw_cd cd_175 17 = some (.getstatic 27) by decide +kernel) (cgs (v := .ref (jx_big + 5)) (by decide) rfl) ?_
        refine jr_1 jm_175 (show jw_cd cd_175 20 = some (.if_acmp .ne 12) by decide +kernel) (cac_ne_t (t := 32) hN5 (jx_neW hw9 (by decide)) (by decide) (by decide)) ?_
        refine jr_1 jm_175 (show jw_cd cd_175 32 = some (.aload_n 1) by decide +kernel) rfl ?_
        refine jr_1 jm_175 (show jw_cd cd_175 33 = some (.getstatic 35) by decide +kernel) (cgs (v := .ref (jx_big + 3)) (by decide) rfl) ?_
        refine jr_1 jm_175 (show jw_cd cd_175 36 = some (.if_acmp .eq 17) by decide +kernel) (cac_eq_f hN3 (jx_neW hw9 (by decide)) (by decide)) ?_
        refine jr_1 jm_175 (show jw_cd cd_175 39 = some (.aload_n 1) by decide +kernel) rfl ?_
        refine jr_1 jm_175 (show jw_cd cd_175 40 = some (.getstatic 38) by decide +kernel) (cgs (v := .ref (jx_big + 6)) (by decide) rfl) ?_
        refine jr_1 jm_175 (show jw_cd cd_175 43 = some (.if_acmp .eq 10) by decide +kernel) (cac_eq_tE (t := 53) hE6 (by decide) (by decide)) ?_
        refine jr_1 jm_175 (show jw_cd cd_175 53 = some (.aload_n 0) by decide +kernel) rfl ?_
        refine jr_1 jm_175 (show jw_cd cd_175 54 = some (.aload_n 2) by decide +kernel) rfl ?_
        refine jr_1 jm_175 (show jw_cd cd_175 55 = some (.aload_n 3) by decide +kernel) rfl ?_
        refine jr_1 jm_175 (show jw_cd cd_175 56 = some (.iconst 3) by decide +kernel) rfl ?_
        refine jr_c jm_175 (show jw_cd cd_175 57 = some (.invokevirtual 31) by decide +kernel) (ccv (n := 3) (m2 := 177) (ci := 7) (a := 11) (bs := [.ref v, .ref t0, .int (Int32.ofInt (3))]) (r := []) (js_cls cl_c11 (by decide)) (show jw_find jw_cvT 10 31 = some (3, [(7, 177)]) by decide +kernel) (by decide) rfl rfl rfl) jm_177 ⟨Nat.le_of_ble_eq_true rfl, by decide⟩ c3 ?_
        refine jr_1 jm_175 (show jw_cd cd_175 60 = some (.ifCond .ne 13) by decide +kernel) (mz_f (q := .ne) (a := 0) (by show ¬ (¬ (0 = 0)); omega) ⟨by omega, by omega⟩ (by decide)) ?_
        refine jr_1 jm_175 (show jw_cd cd_175 63 = some (.aload_n 0) by decide +kernel) rfl ?_
        refine jr_1 jm_175 (show jw_cd cd_175 64 = some (.aload_n 2) by decide +kernel) rfl ?_
        refine jr_1 jm_175 (show jw_cd cd_175 65 = some (.aload_n 3) by decide +kernel) rfl ?_
        refine jr_1 jm_175 (show jw_cd cd_175 66 = some (.iconst 4) by decide +kernel) rfl ?_
        refine jr_c jm_175 (show jw_cd cd_175 67 = some (.invokevirtual 31) by decide +kernel) (ccv (n := 3) (m2 := 177) (ci := 7) (a := 11) (bs := [.ref v, .ref t0, .int (Int32.ofInt (4))]) (r := []) (js_cls cl_c11 (by decide)) (show jw_find jw_cvT 10 31 = some (3, [(7, 177)]) by decide +kernel) (by decide) rfl rfl rfl) jm_177 ⟨Nat.le_of_ble_eq_true rfl, by decide⟩ c4 ?_
        refine jr_1 jm_175 (show jw_cd cd_175 70 = some (.ifCond .eq 7) by decide +kernel) (mz_t (q := .eq) (a := 0) (t := 77) (by show 0 = 0; omega) ⟨by omega, by omega⟩ (by decide) (by decide)) ?_
        refine jr_1 jm_175 (show jw_cd cd_175 77 = some (.iconst 0) by decide +kernel) rfl ?_
        refine jr_1 jm_175 (F2 := (80, [some (.ref 11), some (.ref (jx_big + w)), some (.ref v), some (.ref t0), some (.int (Int32.ofInt (0)))], [], (cl_mk h κ))) (show jw_cd cd_175 78 = some (.istore 4) by decide +kernel) rfl ?_
        refine jr_1 jm_175 (show jw_cd cd_175 80 = some (.iload 4) by decide +kernel) rfl ?_
        refine jr_1 jm_175 (show jw_cd cd_175 82 = some (.ifCond .eq 7) by decide +kernel) (mz_t (q := .eq) (a := 0) (t := 89) (by show 0 = 0; omega) ⟨by omega, by omega⟩ (by decide) (by decide)) ?_
        refine jr_1 jm_175 (show jw_cd cd_175 89 = some (.iconst 2) by decide +kernel) rfl ?_
        exact jr_v jm_175 (show jw_cd cd_175 90 = some (.ireturn) by decide +kernel) rfl
  by_cases h7 : w = 7
  · have hww : (w : Int) = 7 := by omega
    have hE7 : jx_big + w = jx_big + 7 := by omega
    have hN3 : ¬ jx_big + w = jx_big + 3 := by omega
    have hN5 : ¬ jx_big + w = jx_big + 5 := by omega
    have hN6 : ¬ jx_big + w = jx_big + 6 := by omega
    have hres : (doS (w : Int) s (i, F)).1 = if fsort s 0 F = -1 then 2 else 0 := by
      unfold doS
      rw [if_pos hfit]
      simp only [hww]
      by_cases hz : fsort s 0 F = -1
      · rw [if_pos hz]
        simp [hz]
      · rw [if_neg hz]
        simp [hz]
    rw [hres]
    have hK := fsort_0 (s := s) F
    by_cases a3 : allK s 3 F = true
    · rw [if_neg (hK.mpr (Or.inl a3))]
      rw [if_pos a3] at c3
      refine jr_1 jm_175 (show jw_cd cd_175 0 = some (.aload_n 1) by decide +kernel) rfl ?_
      refine jr_1 jm_175 (show jw_cd cd_175 1 = some (.aload_n 2) by decide +kernel) rfl ?_
      refine jr_1 jm_175 (show jw_cd cd_175 2 = some (.getfield 15) by decide +kernel) (js_getf hA (jbg (by omega)) (show jw_fld 10 15 5 = some 0 by decide +kernel) rfl) ?_
      refine jr_c jm_175 (show jw_cd cd_175 5 = some (.invokevirtual 21) by decide +kernel) (ccv (n := 1) (m2 := 176) (ci := 17) (a := jx_big + w) (bs := [.int (Int32.ofInt (i.1))]) (r := []) (jw_wc hw9) (show jw_find jw_cvT 10 21 = some (1, [(17, 176)]) by decide +kernel) (by decide) rfl rfl rfl) jm_176 ⟨Nat.le_of_ble_eq_true rfl, by decide⟩ c0 ?_
      refine jr_1 jm_175 (show jw_cd cd_175 8 = some (.ifCond .ne 5) by decide +kernel) (mz_t (q := .ne) (a := fb) (t := 13) (by show ¬ (fb = 0); omega) ⟨by omega, by omega⟩ (by decide) (by decide)) ?_
      refine jr_1 jm_175 (show jw_cd cd_175 13 = some (.iconst 1) by decide +kernel) rfl ?_
      refine jr_1 jm_175 (F2 := (16, [some (.ref 11), some (.ref (jx_big + w)), some (.ref v), some (.ref t0), some (.int (Int32.ofInt (1)))], [], (cl_mk h κ))) (show jw_cd cd_175 14 = some (.istore 4) by decide +kernel) rfl ?_
      refine jr_1 jm_175 (show jw_cd cd_175 16 = some (.aload_n 1) by decide +kernel) rfl ?_
      refine jr_1 jm_175 (show jw_cd cd_175 17 = some (.getstatic 27) by decide +kernel) (cgs (v := .ref (jx_big + 5)) (by decide) rfl) ?_
      refine jr_1 jm_175 (show jw_cd cd_175 20 = some (.if_acmp .ne 12) by decide +kernel) (cac_ne_t (t := 32) hN5 (jx_neW hw9 (by decide)) (by decide) (by decide)) ?_
      refine jr_1 jm_175 (show jw_cd cd_175 32 = some (.aload_n 1) by decide +kernel) rfl ?_
      refine jr_1 jm_175 (show jw_cd cd_175 33 = some (.getstatic 35) by decide +kernel) (cgs (v := .ref (jx_big + 3)) (by decide) rfl) ?_
      refine jr_1 jm_175 (show jw_cd cd_175 36 = some (.if_acmp .eq 17) by decide +kernel) (cac_eq_f hN3 (jx_neW hw9 (by decide)) (by decide)) ?_
      refine jr_1 jm_175 (show jw_cd cd_175 39 = some (.aload_n 1) by decide +kernel) rfl ?_
      refine jr_1 jm_175 (show jw_cd cd_175 40 = some (.getstatic 38) by decide +kernel) (cgs (v := .ref (jx_big + 6)) (by decide) rfl) ?_
      refine jr_1 jm_175 (show jw_cd cd_175 43 = some (.if_acmp .eq 10) by decide +kernel) (cac_eq_f hN6 (jx_neW hw9 (by decide)) (by decide)) ?_
      refine jr_1 jm_175 (show jw_cd cd_175 46 = some (.aload_n 1) by decide +kernel) rfl ?_
      refine jr_1 jm_175 (show jw_cd cd_175 47 = some (.getstatic 41) by decide +kernel) (cgs (v := .ref (jx_big + 7)) (by decide) rfl) ?_
      refine jr_1 jm_175 (show jw_cd cd_175 50 = some (.if_acmp .ne 30) by decide +kernel) (cac_ne_fE hE7 (by decide)) ?_
      refine jr_1 jm_175 (show jw_cd cd_175 53 = some (.aload_n 0) by decide +kernel) rfl ?_
      refine jr_1 jm_175 (show jw_cd cd_175 54 = some (.aload_n 2) by decide +kernel) rfl ?_
      refine jr_1 jm_175 (show jw_cd cd_175 55 = some (.aload_n 3) by decide +kernel) rfl ?_
      refine jr_1 jm_175 (show jw_cd cd_175 56 = some (.iconst 3) by decide +kernel) rfl ?_
      refine jr_c jm_175 (show jw_cd cd_175 57 = some (.invokevirtual 31) by decide +kernel) (ccv (n := 3) (m2 := 177) (ci := 7) (a := 11) (bs := [.ref v, .ref t0, .int (Int32.ofInt (3))]) (r := []) (js_cls cl_c11 (by decide)) (show jw_find jw_cvT 10 31 = some (3, [(7, 177)]) by decide +kernel) (by decide) rfl rfl rfl) jm_177 ⟨Nat.le_of_ble_eq_true rfl, by decide⟩ c3 ?_
      refine jr_1 jm_175 (show jw_cd cd_175 60 = some (.ifCond .ne 13) by decide +kernel) (mz_t (q := .ne) (a := 1) (t := 73) (by show ¬ (1 = 0); omega) ⟨by omega, by omega⟩ (by decide) (by decide)) ?_
      refine jr_1 jm_175 (show jw_cd cd_175 73 = some (.iconst 1) by decide +kernel) rfl ?_
      refine jr_1 jm_175 (show jw_cd cd_175 74 = some (.goto 4) by decide +kernel) (ju_go (t := 78) (by decide)) ?_
      refine jr_1 jm_175 (F2 := (80, [some (.ref 11), some (.ref (jx_big + w)), some (.ref v), some (.ref t0), some (.int (Int32.ofInt (1)))], [], (cl_mk h κ))) (show jw_cd cd_175 78 = some (.istore 4) by decide +kernel) rfl ?_
      refine jr_1 jm_175 (show jw_cd cd_175 80 = some (.iload 4) by decide +kernel) rfl ?_
      refine jr_1 jm_175 (show jw_cd cd_175 82 = some (.ifCond .eq 7) by decide +kernel) (mz_f (q := .eq) (a := 1) (by show ¬ (1 = 0); omega) ⟨by omega, by omega⟩ (by decide)) ?_
      refine jr_1 jm_175 (show jw_cd cd_175 85 = some (.iconst 0) by decide +kernel) rfl ?_
      refine jr_1 jm_175 (show jw_cd cd_175 86 = some (.goto 4) by decide +kernel) (ju_go (t := 90) (by decide)) ?_
      exact jr_v jm_175 (show jw_cd cd_175 90 = some (.ireturn) by decide +kernel) rfl
    · rw [if_neg a3] at c3
      by_cases a4 : allK s 4 F = true
      · rw [if_neg (hK.mpr (Or.inr a4))]
        rw [if_pos a4] at c4
        refine jr_1 jm_175 (show jw_cd cd_175 0 = some (.aload_n 1) by decide +kernel) rfl ?_
        refine jr_1 jm_175 (show jw_cd cd_175 1 = some (.aload_n 2) by decide +kernel) rfl ?_
        refine jr_1 jm_175 (show jw_cd cd_175 2 = some (.getfield 15) by decide +kernel) (js_getf hA (jbg (by omega)) (show jw_fld 10 15 5 = some 0 by decide +kernel) rfl) ?_
        refine jr_c jm_175 (show jw_cd cd_175 5 = some (.invokevirtual 21) by decide +kernel) (ccv (n := 1) (m2 := 176) (ci := 17) (a := jx_big + w) (bs := [.int (Int32.ofInt (i.1))]) (r := []) (jw_wc hw9) (show jw_find jw_cvT 10 21 = some (1, [(17, 176)]) by decide +kernel) (by decide) rfl rfl rfl) jm_176 ⟨Nat.le_of_ble_eq_true rfl, by decide⟩ c0 ?_
        refine jr_1 jm_175 (show jw_cd cd_175 8 = some (.ifCond .ne 5) by decide +kernel) (mz_t (q := .ne) (a := fb) (t := 13) (by show ¬ (fb = 0); omega) ⟨by omega, by omega⟩ (by decide) (by decide)) ?_
        refine jr_1 jm_175 (show jw_cd cd_175 13 = some (.iconst 1) by decide +kernel) rfl ?_
        refine jr_1 jm_175 (F2 := (16, [some (.ref 11), some (.ref (jx_big + w)), some (.ref v), some (.ref t0), some (.int (Int32.ofInt (1)))], [], (cl_mk h κ))) (show jw_cd cd_175 14 = some (.istore 4) by decide +kernel) rfl ?_
        refine jr_1 jm_175 (show jw_cd cd_175 16 = some (.aload_n 1) by decide +kernel) rfl ?_
        refine jr_1 jm_175 (show jw_cd cd_175 17 = some (.getstatic 27) by decide +kernel) (cgs (v := .ref (jx_big + 5)) (by decide) rfl) ?_
        refine jr_1 jm_175 (show jw_cd cd_175 20 = some (.if_acmp .ne 12) by decide +kernel) (cac_ne_t (t := 32) hN5 (jx_neW hw9 (by decide)) (by decide) (by decide)) ?_
        refine jr_1 jm_175 (show jw_cd cd_175 32 = some (.aload_n 1) by decide +kernel) rfl ?_
        refine jr_1 jm_175 (show jw_cd cd_175 33 = some (.getstatic 35) by decide +kernel) (cgs (v := .ref (jx_big + 3)) (by decide) rfl) ?_
        refine jr_1 jm_175 (show jw_cd cd_175 36 = some (.if_acmp .eq 17) by decide +kernel) (cac_eq_f hN3 (jx_neW hw9 (by decide)) (by decide)) ?_
        refine jr_1 jm_175 (show jw_cd cd_175 39 = some (.aload_n 1) by decide +kernel) rfl ?_
        refine jr_1 jm_175 (show jw_cd cd_175 40 = some (.getstatic 38) by decide +kernel) (cgs (v := .ref (jx_big + 6)) (by decide) rfl) ?_
        refine jr_1 jm_175 (show jw_cd cd_175 43 = some (.if_acmp .eq 10) by decide +kernel) (cac_eq_f hN6 (jx_neW hw9 (by decide)) (by decide)) ?_
        refine jr_1 jm_175 (show jw_cd cd_175 46 = some (.aload_n 1) by decide +kernel) rfl ?_
        refine jr_1 jm_175 (show jw_cd cd_175 47 = some (.getstatic 41) by decide +kernel) (cgs (v := .ref (jx_big + 7)) (by decide) rfl) ?_
        refine jr_1 jm_175 (show jw_cd cd_175 50 = some (.if_acmp .ne 30) by decide +kernel) (cac_ne_fE hE7 (by decide)) ?_
        refine jr_1 jm_175 (show jw_cd cd_175 53 = some (.aload_n 0) by decide +kernel) rfl ?_
        refine jr_1 jm_175 (show jw_cd cd_175 54 = some (.aload_n 2) by decide +kernel) rfl ?_
        refine jr_1 jm_175 (show jw_cd cd_175 55 = some (.aload_n 3) by decide +kernel) rfl ?_
        refine jr_1 jm_175 (show jw_cd cd_175 56 = some (.iconst 3) by decide +kernel) rfl ?_
        refine jr_c jm_175 (show jw_cd cd_175 57 = some (.invokevirtual 31) by decide +kernel) (ccv (n := 3) (m2 := 177) (ci := 7) (a := 11) (bs := [.ref v, .ref t0, .int (Int32.ofInt (3))]) (r := []) (js_cls cl_c11 (by decide)) (show jw_find jw_cvT 10 31 = some (3, [(7, 177)]) by decide +kernel) (by decide) rfl rfl rfl) jm_177 ⟨Nat.le_of_ble_eq_true rfl, by decide⟩ c3 ?_
        refine jr_1 jm_175 (show jw_cd cd_175 60 = some (.ifCond .ne 13) by decide +kernel) (mz_f (q := .ne) (a := 0) (by show ¬ (¬ (0 = 0)); omega) ⟨by omega, by omega⟩ (by decide)) ?_
        refine jr_1 jm_175 (show jw_cd cd_175 63 = some (.aload_n 0) by decide +kernel) rfl ?_
        refine jr_1 jm_175 (show jw_cd cd_175 64 = some (.aload_n 2) by decide +kernel) rfl ?_
        refine jr_1 jm_175 (show jw_cd cd_175 65 = some (.aload_n 3) by decide +kernel) rfl ?_
        refine jr_1 jm_175 (show jw_cd cd_175 66 = some (.iconst 4) by decide +kernel) rfl ?_
        refine jr_c jm_175 (show jw_cd cd_175 67 = some (.invokevirtual 31) by decide +kernel) (ccv (n := 3) (m2 := 177) (ci := 7) (a := 11) (bs := [.ref v, .ref t0, .int (Int32.ofInt (4))]) (r := []) (js_cls cl_c11 (by decide)) (show jw_find jw_cvT 10 31 = some (3, [(7, 177)]) by decide +kernel) (by decide) rfl rfl rfl) jm_177 ⟨Nat.le_of_ble_eq_true rfl, by decide⟩ c4 ?_
        refine jr_1 jm_175 (show jw_cd cd_175 70 = some (.ifCond .eq 7) by decide +kernel) (mz_f (q := .eq) (a := 1) (by show ¬ (1 = 0); omega) ⟨by omega, by omega⟩ (by decide)) ?_
        refine jr_1 jm_175 (show jw_cd cd_175 73 = some (.iconst 1) by decide +kernel) rfl ?_
        refine jr_1 jm_175 (show jw_cd cd_175 74 = some (.goto 4) by decide +kernel) (ju_go (t := 78) (by decide)) ?_
        refine jr_1 jm_175 (F2 := (80, [some (.ref 11), some (.ref (jx_big + w)), some (.ref v), some (.ref t0), some (.int (Int32.ofInt (1)))], [], (cl_mk h κ))) (show jw_cd cd_175 78 = some (.istore 4) by decide +kernel) rfl ?_
        refine jr_1 jm_175 (show jw_cd cd_175 80 = some (.iload 4) by decide +kernel) rfl ?_
        refine jr_1 jm_175 (show jw_cd cd_175 82 = some (.ifCond .eq 7) by decide +kernel) (mz_f (q := .eq) (a := 1) (by show ¬ (1 = 0); omega) ⟨by omega, by omega⟩ (by decide)) ?_
        refine jr_1 jm_175 (show jw_cd cd_175 85 = some (.iconst 0) by decide +kernel) rfl ?_
        refine jr_1 jm_175 (show jw_cd cd_175 86 = some (.goto 4) by decide +kernel) (ju_go (t := 90) (by decide)) ?_
        exact jr_v jm_175 (show jw_cd cd_175 90 = some (.ireturn) by decide +kernel) rfl
      · rw [if_pos (Classical.byContradiction (fun z => by rcases hK.mp z with q | q; exact a3 q; exact a4 q))]
        rw [if_neg a4] at c4
        refine jr_1 jm_175 (show jw_cd cd_175 0 = some (.aload_n 1) by decide +kernel) rfl ?_
        refine jr_1 jm_175 (show jw_cd cd_175 1 = some (.aload_n 2) by decide +kernel) rfl ?_
        refine jr_1 jm_175 (show jw_cd cd_175 2 = some (.getfield 15) by decide +kernel) (js_getf hA (jbg (by omega)) (show jw_fld 10 15 5 = some 0 by decide +kernel) rfl) ?_
        refine jr_c jm_175 (show jw_cd cd_175 5 = some (.invokevirtual 21) by decide +kernel) (ccv (n := 1) (m2 := 176) (ci := 17) (a := jx_big + w) (bs := [.int (Int32.ofInt (i.1))]) (r := []) (jw_wc hw9) (show jw_find jw_cvT 10 21 = some (1, [(17, 176)]) by decide +kernel) (by decide) rfl rfl rfl) jm_176 ⟨Nat.le_of_ble_eq_true rfl, by decide⟩ c0 ?_
        refine jr_1 jm_175 (show jw_cd cd_175 8 = some (.ifCond .ne 5) by decide +kernel) (mz_t (q := .ne) (a := fb) (t := 13) (by show ¬ (fb = 0); omega) ⟨by omega, by omega⟩ (by decide) (by decide)) ?_
        refine jr_1 jm_175 (show jw_cd cd_175 13 = some (.iconst 1) by decide +kernel) rfl ?_
        refine jr_1 jm_175 (F2 := (16, [some (.ref 11), some (.ref (jx_big + w)), some (.ref v), some (.ref t0), some (.int (Int32.ofInt (1)))], [], (cl_mk h κ))) (show jw_cd cd_175 14 = some (.istore 4) by decide +kernel) rfl ?_
        refine jr_1 jm_175 (show jw_cd cd_175 16 = some (.aload_n 1) by decide +kernel) rfl ?_
        refine jr_1 jm_175 (show jw_cd cd_175 17 = some (.getstatic 27) by decide +kernel) (cgs (v := .ref (jx_big + 5)) (by decide) rfl) ?_
        refine jr_1 jm_175 (show jw_cd cd_175 20 = some (.if_acmp .ne 12) by decide +kernel) (cac_ne_t (t := 32) hN5 (jx_neW hw9 (by decide)) (by decide) (by decide)) ?_
        refine jr_1 jm_175 (show jw_cd cd_175 32 = some (.aload_n 1) by decide +kernel) rfl ?_
        refine jr_1 jm_175 (show jw_cd cd_175 33 = some (.getstatic 35) by decide +kernel) (cgs (v := .ref (jx_big + 3)) (by decide) rfl) ?_
        refine jr_1 jm_175 (show jw_cd cd_175 36 = some (.if_acmp .eq 17) by decide +kernel) (cac_eq_f hN3 (jx_neW hw9 (by decide)) (by decide)) ?_
        refine jr_1 jm_175 (show jw_cd cd_175 39 = some (.aload_n 1) by decide +kernel) rfl ?_
        refine jr_1 jm_175 (show jw_cd cd_175 40 = some (.getstatic 38) by decide +kernel) (cgs (v := .ref (jx_big + 6)) (by decide) rfl) ?_
        refine jr_1 jm_175 (show jw_cd cd_175 43 = some (.if_acmp .eq 10) by decide +kernel) (cac_eq_f hN6 (jx_neW hw9 (by decide)) (by decide)) ?_
        refine jr_1 jm_175 (show jw_cd cd_175 46 = some (.aload_n 1) by decide +kernel) rfl ?_
        refine jr_1 jm_175 (show jw_cd cd_175 47 = some (.getstatic 41) by decide +kernel) (cgs (v := .ref (jx_big + 7)) (by decide) rfl) ?_
        refine jr_1 jm_175 (show jw_cd cd_175 50 = some (.if_acmp .ne 30) by decide +kernel) (cac_ne_fE hE7 (by decide)) ?_
        refine jr_1 jm_175 (show jw_cd cd_175 53 = some (.aload_n 0) by decide +kernel) rfl ?_
        refine jr_1 jm_175 (show jw_cd cd_175 54 = some (.aload_n 2) by decide +kernel) rfl ?_
        refine jr_1 jm_175 (show jw_cd cd_175 55 = some (.aload_n 3) by decide +kernel) rfl ?_
        refine jr_1 jm_175 (show jw_cd cd_175 56 = some (.iconst 3) by decide +kernel) rfl ?_
        refine jr_c jm_175 (show jw_cd cd_175 57 = some (.invokevirtual 31) by decide +kernel) (ccv (n := 3) (m2 := 177) (ci := 7) (a := 11) (bs := [.ref v, .ref t0, .int (Int32.ofInt (3))]) (r := []) (js_cls cl_c11 (by decide)) (show jw_find jw_cvT 10 31 = some (3, [(7, 177)]) by decide +kernel) (by decide) rfl rfl rfl) jm_177 ⟨Nat.le_of_ble_eq_true rfl, by decide⟩ c3 ?_
        refine jr_1 jm_175 (show jw_cd cd_175 60 = some (.ifCond .ne 13) by decide +kernel) (mz_f (q := .ne) (a := 0) (by show ¬ (¬ (0 = 0)); omega) ⟨by omega, by omega⟩ (by decide)) ?_
        refine jr_1 jm_175 (show jw_cd cd_175 63 = some (.aload_n 0) by decide +kernel) rfl ?_
        refine jr_1 jm_175 (show jw_cd cd_175 64 = some (.aload_n 2) by decide +kernel) rfl ?_
        refine jr_1 jm_175 (show jw_cd cd_175 65 = some (.aload_n 3) by decide +kernel) rfl ?_
        refine jr_1 jm_175 (show jw_cd cd_175 66 = some (.iconst 4) by decide +kernel) rfl ?_
        refine jr_c jm_175 (show jw_cd cd_175 67 = some (.invokevirtual 31) by decide +kernel) (ccv (n := 3) (m2 := 177) (ci := 7) (a := 11) (bs := [.ref v, .ref t0, .int (Int32.ofInt (4))]) (r := []) (js_cls cl_c11 (by decide)) (show jw_find jw_cvT 10 31 = some (3, [(7, 177)]) by decide +kernel) (by decide) rfl rfl rfl) jm_177 ⟨Nat.le_of_ble_eq_true rfl, by decide⟩ c4 ?_
        refine jr_1 jm_175 (show jw_cd cd_175 70 = some (.ifCond .eq 7) by decide +kernel) (mz_t (q := .eq) (a := 0) (t := 77) (by show 0 = 0; omega) ⟨by omega, by omega⟩ (by decide) (by decide)) ?_
        refine jr_1 jm_175 (show jw_cd cd_175 77 = some (.iconst 0) by decide +kernel) rfl ?_
        refine jr_1 jm_175 (F2 := (80, [some (.ref 11), some (.ref (jx_big + w)), some (.ref v), some (.ref t0), some (.int (Int32.ofInt (0)))], [], (cl_mk h κ))) (show jw_cd cd_175 78 = some (.istore 4) by decide +kernel) rfl ?_
        refine jr_1 jm_175 (show jw_cd cd_175 80 = some (.iload 4) by decide +kernel) rfl ?_
        refine jr_1 jm_175 (show jw_cd cd_175 82 = some (.ifCond .eq 7) by decide +kernel) (mz_t (q := .eq) (a := 0) (t := 89) (by show 0 = 0; omega) ⟨by omega, by omega⟩ (by decide) (by decide)) ?_
        refine jr_1 jm_175 (show jw_cd cd_175 89 = some (.iconst 2) by decide +kernel) rfl ?_
        exact jr_v jm_175 (show jw_cd cd_175 90 = some (.ireturn) by decide +kernel) rfl
  have hN3 : ¬ jx_big + w = jx_big + 3 := by omega
  have hN6 : ¬ jx_big + w = jx_big + 6 := by omega
  have hN7 : ¬ jx_big + w = jx_big + 7 := by omega
  by_cases h5 : w = 5
  · have hE5 : jx_big + w = jx_big + 5 := by omega
    have hww : (w : Int) = 5 := by omega
    have hes := hky h3
    have hres : (doS (w : Int) s (i, F)).1 = if allK s 3 F = true then 0 else 2 := by
      unfold doS
      rw [if_pos hfit]
      simp only [hww]
      rw [hes, ← fnum_K]
      by_cases hz : fnum F = true
      · rw [if_pos hz]
        simp [hz]
      · rw [if_neg hz]
        simp [hz]
    rw [hres]
    by_cases a3 : allK s 3 F = true
    · rw [if_pos a3] at c3 ⊢
      obtain ⟨f3, ef3⟩ : ∃ f3 : Int, f3 = 1 := ⟨_, rfl⟩
      rw [← ef3] at c3
      refine jr_1 jm_175 (show jw_cd cd_175 0 = some (.aload_n 1) by decide +kernel) rfl ?_
      refine jr_1 jm_175 (show jw_cd cd_175 1 = some (.aload_n 2) by decide +kernel) rfl ?_
      refine jr_1 jm_175 (show jw_cd cd_175 2 = some (.getfield 15) by decide +kernel) (js_getf hA (jbg (by omega)) (show jw_fld 10 15 5 = some 0 by decide +kernel) rfl) ?_
      refine jr_c jm_175 (show jw_cd cd_175 5 = some (.invokevirtual 21) by decide +kernel) (ccv (n := 1) (m2 := 176) (ci := 17) (a := jx_big + w) (bs := [.int (Int32.ofInt (i.1))]) (r := []) (jw_wc hw9) (show jw_find jw_cvT 10 21 = some (1, [(17, 176)]) by decide +kernel) (by decide) rfl rfl rfl) jm_176 ⟨Nat.le_of_ble_eq_true rfl, by decide⟩ c0 ?_
      refine jr_1 jm_175 (show jw_cd cd_175 8 = some (.ifCond .ne 5) by decide +kernel) (mz_t (q := .ne) (a := fb) (t := 13) (by show ¬ (fb = 0); omega) ⟨by omega, by omega⟩ (by decide) (by decide)) ?_
      refine jr_1 jm_175 (show jw_cd cd_175 13 = some (.iconst 1) by decide +kernel) rfl ?_
      refine jr_1 jm_175 (F2 := (16, [some (.ref 11), some (.ref (jx_big + w)), some (.ref v), some (.ref t0), some (.int (Int32.ofInt (1)))], [], (cl_mk h κ))) (show jw_cd cd_175 14 = some (.istore 4) by decide +kernel) rfl ?_
      refine jr_1 jm_175 (show jw_cd cd_175 16 = some (.aload_n 1) by decide +kernel) rfl ?_
      refine jr_1 jm_175 (show jw_cd cd_175 17 = some (.getstatic 27) by decide +kernel) (cgs (v := .ref (jx_big + 5)) (by decide) rfl) ?_
      refine jr_1 jm_175 (show jw_cd cd_175 20 = some (.if_acmp .ne 12) by decide +kernel) (cac_ne_fE hE5 (by decide)) ?_
      refine jr_1 jm_175 (show jw_cd cd_175 23 = some (.aload_n 0) by decide +kernel) rfl ?_
      refine jr_1 jm_175 (show jw_cd cd_175 24 = some (.aload_n 2) by decide +kernel) rfl ?_
      refine jr_1 jm_175 (show jw_cd cd_175 25 = some (.aload_n 3) by decide +kernel) rfl ?_
      refine jr_1 jm_175 (show jw_cd cd_175 26 = some (.iconst 3) by decide +kernel) rfl ?_
      refine jr_c jm_175 (show jw_cd cd_175 27 = some (.invokevirtual 31) by decide +kernel) (ccv (n := 3) (m2 := 177) (ci := 7) (a := 11) (bs := [.ref v, .ref t0, .int (Int32.ofInt (3))]) (r := []) (js_cls cl_c11 (by decide)) (show jw_find jw_cvT 10 31 = some (3, [(7, 177)]) by decide +kernel) (by decide) rfl rfl rfl) jm_177 ⟨Nat.le_of_ble_eq_true rfl, by decide⟩ c3 ?_
      refine jr_1 jm_175 (F2 := (32, [some (.ref 11), some (.ref (jx_big + w)), some (.ref v), some (.ref t0), some (.int (Int32.ofInt (f3)))], [], (cl_mk h κ))) (show jw_cd cd_175 30 = some (.istore 4) by decide +kernel) rfl ?_
      refine jr_1 jm_175 (show jw_cd cd_175 32 = some (.aload_n 1) by decide +kernel) rfl ?_
      refine jr_1 jm_175 (show jw_cd cd_175 33 = some (.getstatic 35) by decide +kernel) (cgs (v := .ref (jx_big + 3)) (by decide) rfl) ?_
      refine jr_1 jm_175 (show jw_cd cd_175 36 = some (.if_acmp .eq 17) by decide +kernel) (cac_eq_f hN3 (jx_neW hw9 (by decide)) (by decide)) ?_
      refine jr_1 jm_175 (show jw_cd cd_175 39 = some (.aload_n 1) by decide +kernel) rfl ?_
      refine jr_1 jm_175 (show jw_cd cd_175 40 = some (.getstatic 38) by decide +kernel) (cgs (v := .ref (jx_big + 6)) (by decide) rfl) ?_
      refine jr_1 jm_175 (show jw_cd cd_175 43 = some (.if_acmp .eq 10) by decide +kernel) (cac_eq_f hN6 (jx_neW hw9 (by decide)) (by decide)) ?_
      refine jr_1 jm_175 (show jw_cd cd_175 46 = some (.aload_n 1) by decide +kernel) rfl ?_
      refine jr_1 jm_175 (show jw_cd cd_175 47 = some (.getstatic 41) by decide +kernel) (cgs (v := .ref (jx_big + 7)) (by decide) rfl) ?_
      refine jr_1 jm_175 (show jw_cd cd_175 50 = some (.if_acmp .ne 30) by decide +kernel) (cac_ne_t (t := 80) hN7 (jx_neW hw9 (by decide)) (by decide) (by decide)) ?_
      refine jr_1 jm_175 (show jw_cd cd_175 80 = some (.iload 4) by decide +kernel) rfl ?_
      refine jr_1 jm_175 (show jw_cd cd_175 82 = some (.ifCond .eq 7) by decide +kernel) (mz_f (q := .eq) (a := f3) (by show ¬ (f3 = 0); omega) ⟨by omega, by omega⟩ (by decide)) ?_
      refine jr_1 jm_175 (show jw_cd cd_175 85 = some (.iconst 0) by decide +kernel) rfl ?_
      refine jr_1 jm_175 (show jw_cd cd_175 86 = some (.goto 4) by decide +kernel) (ju_go (t := 90) (by decide)) ?_
      exact jr_v jm_175 (show jw_cd cd_175 90 = some (.ireturn) by decide +kernel) rfl
    · rw [if_neg a3] at c3 ⊢
      obtain ⟨f3, ef3⟩ : ∃ f3 : Int, f3 = 0 := ⟨_, rfl⟩
      rw [← ef3] at c3
      refine jr_1 jm_175 (show jw_cd cd_175 0 = some (.aload_n 1) by decide +kernel) rfl ?_
      refine jr_1 jm_175 (show jw_cd cd_175 1 = some (.aload_n 2) by decide +kernel) rfl ?_
      refine jr_1 jm_175 (show jw_cd cd_175 2 = some (.getfield 15) by decide +kernel) (js_getf hA (jbg (by omega)) (show jw_fld 10 15 5 = some 0 by decide +kernel) rfl) ?_
      refine jr_c jm_175 (show jw_cd cd_175 5 = some (.invokevirtual 21) by decide +kernel) (ccv (n := 1) (m2 := 176) (ci := 17) (a := jx_big + w) (bs := [.int (Int32.ofInt (i.1))]) (r := []) (jw_wc hw9) (show jw_find jw_cvT 10 21 = some (1, [(17, 176)]) by decide +kernel) (by decide) rfl rfl rfl) jm_176 ⟨Nat.le_of_ble_eq_true rfl, by decide⟩ c0 ?_
      refine jr_1 jm_175 (show jw_cd cd_175 8 = some (.ifCond .ne 5) by decide +kernel) (mz_t (q := .ne) (a := fb) (t := 13) (by show ¬ (fb = 0); omega) ⟨by omega, by omega⟩ (by decide) (by decide)) ?_
      refine jr_1 jm_175 (show jw_cd cd_175 13 = some (.iconst 1) by decide +kernel) rfl ?_
      refine jr_1 jm_175 (F2 := (16, [some (.ref 11), some (.ref (jx_big + w)), some (.ref v), some (.ref t0), some (.int (Int32.ofInt (1)))], [], (cl_mk h κ))) (show jw_cd cd_175 14 = some (.istore 4) by decide +kernel) rfl ?_
      refine jr_1 jm_175 (show jw_cd cd_175 16 = some (.aload_n 1) by decide +kernel) rfl ?_
      refine jr_1 jm_175 (show jw_cd cd_175 17 = some (.getstatic 27) by decide +kernel) (cgs (v := .ref (jx_big + 5)) (by decide) rfl) ?_
      refine jr_1 jm_175 (show jw_cd cd_175 20 = some (.if_acmp .ne 12) by decide +kernel) (cac_ne_fE hE5 (by decide)) ?_
      refine jr_1 jm_175 (show jw_cd cd_175 23 = some (.aload_n 0) by decide +kernel) rfl ?_
      refine jr_1 jm_175 (show jw_cd cd_175 24 = some (.aload_n 2) by decide +kernel) rfl ?_
      refine jr_1 jm_175 (show jw_cd cd_175 25 = some (.aload_n 3) by decide +kernel) rfl ?_
      refine jr_1 jm_175 (show jw_cd cd_175 26 = some (.iconst 3) by decide +kernel) rfl ?_
      refine jr_c jm_175 (show jw_cd cd_175 27 = some (.invokevirtual 31) by decide +kernel) (ccv (n := 3) (m2 := 177) (ci := 7) (a := 11) (bs := [.ref v, .ref t0, .int (Int32.ofInt (3))]) (r := []) (js_cls cl_c11 (by decide)) (show jw_find jw_cvT 10 31 = some (3, [(7, 177)]) by decide +kernel) (by decide) rfl rfl rfl) jm_177 ⟨Nat.le_of_ble_eq_true rfl, by decide⟩ c3 ?_
      refine jr_1 jm_175 (F2 := (32, [some (.ref 11), some (.ref (jx_big + w)), some (.ref v), some (.ref t0), some (.int (Int32.ofInt (f3)))], [], (cl_mk h κ))) (show jw_cd cd_175 30 = some (.istore 4) by decide +kernel) rfl ?_
      refine jr_1 jm_175 (show jw_cd cd_175 32 = some (.aload_n 1) by decide +kernel) rfl ?_
      refine jr_1 jm_175 (show jw_cd cd_175 33 = some (.getstatic 35) by decide +kernel) (cgs (v := .ref (jx_big + 3)) (by decide) rfl) ?_
      refine jr_1 jm_175 (show jw_cd cd_175 36 = some (.if_acmp .eq 17) by decide +kernel) (cac_eq_f hN3 (jx_neW hw9 (by decide)) (by decide)) ?_
      refine jr_1 jm_175 (show jw_cd cd_175 39 = some (.aload_n 1) by decide +kernel) rfl ?_
      refine jr_1 jm_175 (show jw_cd cd_175 40 = some (.getstatic 38) by decide +kernel) (cgs (v := .ref (jx_big + 6)) (by decide) rfl) ?_
      refine jr_1 jm_175 (show jw_cd cd_175 43 = some (.if_acmp .eq 10) by decide +kernel) (cac_eq_f hN6 (jx_neW hw9 (by decide)) (by decide)) ?_
      refine jr_1 jm_175 (show jw_cd cd_175 46 = some (.aload_n 1) by decide +kernel) rfl ?_
      refine jr_1 jm_175 (show jw_cd cd_175 47 = some (.getstatic 41) by decide +kernel) (cgs (v := .ref (jx_big + 7)) (by decide) rfl) ?_
      refine jr_1 jm_175 (show jw_cd cd_175 50 = some (.if_acmp .ne 30) by decide +kernel) (cac_ne_t (t := 80) hN7 (jx_neW hw9 (by decide)) (by decide) (by decide)) ?_
      refine jr_1 jm_175 (show jw_cd cd_175 80 = some (.iload 4) by decide +kernel) rfl ?_
      refine jr_1 jm_175 (show jw_cd cd_175 82 = some (.ifCond .eq 7) by decide +kernel) (mz_t (q := .eq) (a := f3) (t := 89) (by show f3 = 0; omega) ⟨by omega, by omega⟩ (by decide) (by decide)) ?_
      refine jr_1 jm_175 (show jw_cd cd_175 89 = some (.iconst 2) by decide +kernel) rfl ?_
      exact jr_v jm_175 (show jw_cd cd_175 90 = some (.ireturn) by decide +kernel) rfl
  · have hN5 : ¬ jx_big + w = jx_big + 5 := by omega
    have hres : (doS (w : Int) s (i, F)).1 = 0 := by
      unfold doS
      rw [if_pos hfit]
      obtain h | h | h | h | h : w = 0 ∨ w = 1 ∨ w = 2 ∨ w = 4 ∨ w = 8 := by omega
      all_goals
        subst h
        simp
      by_cases hz : i.1 = 4
      · simp [hz]
      · simp [hz]
    rw [hres]
    refine jr_1 jm_175 (show jw_cd cd_175 0 = some (.aload_n 1) by decide +kernel) rfl ?_
    refine jr_1 jm_175 (show jw_cd cd_175 1 = some (.aload_n 2) by decide +kernel) rfl ?_
    refine jr_1 jm_175 (show jw_cd cd_175 2 = some (.getfield 15) by decide +kernel) (js_getf hA (jbg (by omega)) (show jw_fld 10 15 5 = some 0 by decide +kernel) rfl) ?_
    refine jr_c jm_175 (show jw_cd cd_175 5 = some (.invokevirtual 21) by decide +kernel) (ccv (n := 1) (m2 := 176) (ci := 17) (a := jx_big + w) (bs := [.int (Int32.ofInt (i.1))]) (r := []) (jw_wc hw9) (show jw_find jw_cvT 10 21 = some (1, [(17, 176)]) by decide +kernel) (by decide) rfl rfl rfl) jm_176 ⟨Nat.le_of_ble_eq_true rfl, by decide⟩ c0 ?_
    refine jr_1 jm_175 (show jw_cd cd_175 8 = some (.ifCond .ne 5) by decide +kernel) (mz_t (q := .ne) (a := fb) (t := 13) (by show ¬ (fb = 0); omega) ⟨by omega, by omega⟩ (by decide) (by decide)) ?_
    refine jr_1 jm_175 (show jw_cd cd_175 13 = some (.iconst 1) by decide +kernel) rfl ?_
    refine jr_1 jm_175 (F2 := (16, [some (.ref 11), some (.ref (jx_big + w)), some (.ref v), some (.ref t0), some (.int (Int32.ofInt (1)))], [], (cl_mk h κ))) (show jw_cd cd_175 14 = some (.istore 4) by decide +kernel) rfl ?_
    refine jr_1 jm_175 (show jw_cd cd_175 16 = some (.aload_n 1) by decide +kernel) rfl ?_
    refine jr_1 jm_175 (show jw_cd cd_175 17 = some (.getstatic 27) by decide +kernel) (cgs (v := .ref (jx_big + 5)) (by decide) rfl) ?_
    refine jr_1 jm_175 (show jw_cd cd_175 20 = some (.if_acmp .ne 12) by decide +kernel) (cac_ne_t (t := 32) hN5 (jx_neW hw9 (by decide)) (by decide) (by decide)) ?_
    refine jr_1 jm_175 (show jw_cd cd_175 32 = some (.aload_n 1) by decide +kernel) rfl ?_
    refine jr_1 jm_175 (show jw_cd cd_175 33 = some (.getstatic 35) by decide +kernel) (cgs (v := .ref (jx_big + 3)) (by decide) rfl) ?_
    refine jr_1 jm_175 (show jw_cd cd_175 36 = some (.if_acmp .eq 17) by decide +kernel) (cac_eq_f hN3 (jx_neW hw9 (by decide)) (by decide)) ?_
    refine jr_1 jm_175 (show jw_cd cd_175 39 = some (.aload_n 1) by decide +kernel) rfl ?_
    refine jr_1 jm_175 (show jw_cd cd_175 40 = some (.getstatic 38) by decide +kernel) (cgs (v := .ref (jx_big + 6)) (by decide) rfl) ?_
    refine jr_1 jm_175 (show jw_cd cd_175 43 = some (.if_acmp .eq 10) by decide +kernel) (cac_eq_f hN6 (jx_neW hw9 (by decide)) (by decide)) ?_
    refine jr_1 jm_175 (show jw_cd cd_175 46 = some (.aload_n 1) by decide +kernel) rfl ?_
    refine jr_1 jm_175 (show jw_cd cd_175 47 = some (.getstatic 41) by decide +kernel) (cgs (v := .ref (jx_big + 7)) (by decide) rfl) ?_
    refine jr_1 jm_175 (show jw_cd cd_175 50 = some (.if_acmp .ne 30) by decide +kernel) (cac_ne_t (t := 80) hN7 (jx_neW hw9 (by decide)) (by decide) (by decide)) ?_
    refine jr_1 jm_175 (show jw_cd cd_175 80 = some (.iload 4) by decide +kernel) rfl ?_
    refine jr_1 jm_175 (show jw_cd cd_175 82 = some (.ifCond .eq 7) by decide +kernel) (mz_f (q := .eq) (a := 1) (by show ¬ (1 = 0); omega) ⟨by omega, by omega⟩ (by decide)) ?_
    refine jr_1 jm_175 (show jw_cd cd_175 85 = some (.iconst 0) by decide +kernel) rfl ?_
    refine jr_1 jm_175 (show jw_cd cd_175 86 = some (.goto 4) by decide +kernel) (ju_go (t := 90) (by decide)) ?_
    exact jr_v jm_175 (show jw_cd cd_175 90 = some (.ireturn) by decide +kernel) rfl
