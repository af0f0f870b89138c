/-! ===== the class: at, element, bound, sides (printed by program: gen120.py) ===== -/
theorem jm_165 : jw_M 165 = some (8, 4, ((Option.some (Jvm.ClassFile.FieldType.object "PickDesk$Value")), false), jw_cd cd_165, fun _ _ => none) := rfl
theorem jm_166 : jw_M 166 = some (8, 4, ((Option.some (Jvm.ClassFile.FieldType.object "PickDesk$Value")), false), jw_cd cd_166, fun _ _ => none) := rfl
theorem jm_167 : jw_M 167 = some (30, 1, ((Option.some Jvm.ClassFile.FieldType.int), false), jw_cd cd_167, fun _ _ => none) := rfl
theorem jm_169 : jw_M 169 = some (30, 6, ((Option.some Jvm.ClassFile.FieldType.int), false), jw_cd cd_169, fun _ _ => none) := rfl
theorem jm_171 : jw_M 171 = some (9, 5, ((Option.some (Jvm.ClassFile.FieldType.object "PickDesk$Value")), false), jw_cd cd_171, fun _ _ => none) := rfl
theorem jm_172 : jw_M 172 = some (8, 1, ((Option.some Jvm.ClassFile.FieldType.boolean), false), jw_cd cd_172, fun _ _ => none) := rfl
theorem vF_nth {h : jx_H} {X : Nat → Prop} : ∀ (F : FT) (ob : Bool) (f g : Nat → Value) (j k : Nat) (y : vT), vF h X F ob f g j → (sib F)[k]? = some y → ∃ a, f (j + k) = .ref a ∧ vN h X a y.1 y.2
  | .leaf, _, _, _, _, k, y, _, hy => by cases hy
  | .inner s0 i u0 c n, ob, f, g, j, 0, y, hv, hy => by
    obtain ⟨⟨a, a1, a2⟩, -, -⟩ := hv
    injection hy with hy
    rw [← hy]
    exact ⟨a, a1, a2⟩
  | .inner s0 i u0 c n, ob, f, g, j, k + 1, y, hv, hy => by
    obtain ⟨-, -, h3⟩ := hv
    obtain ⟨a, a1, a2⟩ := vF_nth n ob f g (j + 1) k y h3 hy
    exact ⟨a, by rw [show j + (k + 1) = j + 1 + k by omega]; exact a1, a2⟩
theorem jc_atRL {β : Bool} {d : Nat} {h : jx_H} {κ : mS} (hl : 50 ≤ h.length) {X Y : Nat → Prop} {a t0 o : Nat} {i : tI} {F0 : FT} {s : List Int} (hv : vO h κ X a i F0) (h6 : i.1 = 6) (ht : strR h Y t0 s) (hs : tx s) (hl0 : a < 4000000000) (t ka ia kc ic : Nat) (f g : Nat → Value) (l1 : ka < 4000000000) (l2 : ia < 4000000000) (hA : (cl_mk h κ)[a]? = some (.inr (5, [.int (Int32.ofInt (i.1)), .int (Int32.ofInt (i.2.1)), .ref t, .ref ka, .ref ia, .int (Int32.ofInt (((fsz F0 : Nat) : Int)))]))) (hK : (cl_mk h κ)[ka]? = some (.inl (4, kc, g))) (hI : (cl_mk h κ)[ia]? = some (.inl (4, ic, f))) (hsz : fsz F0 ≤ ic ∧ ic ≤ 1000000 ∧ fsz F0 ≤ kc ∧ kc ≤ 1000000) : ∀ (F : FT) (j : Nat), vF h X F true f g j → fwf F → j + fsz F = fsz F0 → (∀ y, fget s F = some y → ∃ b, jx_r (jz β) jw_M (d + 2) 165 (2, [some (.ref a), some (.ref t0), some (.ref o), some (.int (Int32.ofInt (((j : Nat) : Int))))], [], (cl_mk h κ)) (cl_mk h (κ), .inl (some (.ref (b)))) ∧ vN h X b y.1 y.2) ∧ (fget s F = none → jx_r (jz β) jw_M (d + 2) 165 (2, [some (.ref a), some (.ref t0), some (.ref o), some (.int (Int32.ofInt (((j : Nat) : Int))))], [], (cl_mk h κ)) (cl_mk h κ, .inl (some (.ref o))))
  | .leaf, j, _, _, hj => by
    have hj : j + 0 = fsz F0 := hj
    refine ⟨fun y hy => (by cases hy), fun _ => ?_⟩
    refine jr_1 jm_165 (show jw_cd cd_165 2 = some (.iload_n 3) by decide +kernel) rfl ?_
    refine jr_1 jm_165 (show jw_cd cd_165 3 = some (.aload_n 0) by decide +kernel) rfl ?_
    refine jr_1 jm_165 (show jw_cd cd_165 4 = some (.getfield 29) by decide +kernel) (js_getf hA (jbg (by omega)) (show jw_fld 8 29 5 = some 5 by decide +kernel) rfl) ?_
    refine jr_1 jm_165 (show jw_cd cd_165 7 = some (.if_icmp .ge 41) by decide +kernel) (mb_t (q := .ge) (a := ((j : Nat) : Int)) (b := ((fsz F0 : Nat) : Int)) (t := 48) (by show ((fsz F0 : Nat) : Int) ≤ ((j : Nat) : Int); omega) ⟨by omega, by omega⟩ ⟨by omega, by omega⟩ (by decide) (by decide)) ?_
    refine jr_1 jm_165 (show jw_cd cd_165 48 = some (.aload_n 2) by decide +kernel) rfl ?_
    exact jr_v jm_165 (show jw_cd cd_165 49 = some (.areturn) by decide +kernel) rfl
  | .inner s0 i0 u0 e n, j, hvF, hw, hj => by
    have hj : j + (fsz n + 1) = fsz F0 := hj
    obtain ⟨⟨b, hfj, hb⟩, h2, h3⟩ := hvF
    obtain ⟨kv, hgj, zk, kt, kka, kia, kkc, kic, kf, kg, zka, zkia, hkv, hkt, -⟩ := h2 rfl
    have zk1 := zk.1
    have zk2 := zk.2.1
    have hkt : strR h X kt i0.2.2.2 := hkt
    obtain ⟨uc, ua, kb, kf1, u0', u1, -⟩ := strR_q (β := β) (κ := κ) hl hkt
    have wi : tx i0.2.2.2 := hw.1.2.2.2.2
    have hq := jc_eq (β := β) (d := d) (κ := κ) hl hkt ht (fun c hc => by have := wi.2 c hc; omega) (fun c hc => by have := hs.2 c hc; omega) (by have := wi.1; omega) (by have := hs.1; omega)
    have ef : fget s (.inner s0 i0 u0 e n) = if i0.2.2.2 = s then some (i0, e) else fget s n := rfl
    by_cases he : i0.2.2.2 = s
    · rw [if_pos he] at ef
      rw [ef]
      refine ⟨fun y hy => ?_, fun z => (by cases z)⟩
      injection hy with hy
      rw [← hy]
      refine ⟨b, ?_, hb⟩
      refine jr_1 jm_165 (show jw_cd cd_165 2 = some (.iload_n 3) by decide +kernel) rfl ?_
      refine jr_1 jm_165 (show jw_cd cd_165 3 = some (.aload_n 0) by decide +kernel) rfl ?_
      refine jr_1 jm_165 (show jw_cd cd_165 4 = some (.getfield 29) by decide +kernel) (js_getf hA (jbg (by omega)) (show jw_fld 8 29 5 = some 5 by decide +kernel) rfl) ?_
      refine jr_1 jm_165 (show jw_cd cd_165 7 = some (.if_icmp .ge 41) by decide +kernel) (mb_f (q := .ge) (a := ((j : Nat) : Int)) (b := ((fsz F0 : Nat) : Int)) (by show ¬ (((fsz F0 : Nat) : Int) ≤ ((j : Nat) : Int)); omega) ⟨by omega, by omega⟩ ⟨by omega, by omega⟩ (by decide)) ?_
      refine jr_1 jm_165 (show jw_cd cd_165 10 = some (.iload_n 3) by decide +kernel) rfl ?_
      refine jr_1 jm_165 (show jw_cd cd_165 11 = some (.aload_n 0) by decide +kernel) rfl ?_
      refine jr_1 jm_165 (show jw_cd cd_165 12 = some (.getfield 22) by decide +kernel) (js_getf hA (jbg (by omega)) (show jw_fld 8 22 5 = some 3 by decide +kernel) rfl) ?_
      refine jr_1 jm_165 (show jw_cd cd_165 15 = some (.arraylength) by decide +kernel) (cln (js_arr hK (jbg (by omega))) (by decide)) ?_
      refine jr_1 jm_165 (show jw_cd cd_165 16 = some (.if_icmp .ge 32) by decide +kernel) (mb_f (q := .ge) (a := ((j : Nat) : Int)) (b := ((kc : Nat) : Int)) (by show ¬ (((kc : Nat) : Int) ≤ ((j : Nat) : Int)); omega) ⟨by omega, by omega⟩ ⟨by omega, by omega⟩ (by decide)) ?_
      refine jr_1 jm_165 (show jw_cd cd_165 19 = some (.aload_n 0) by decide +kernel) rfl ?_
      refine jr_1 jm_165 (show jw_cd cd_165 20 = some (.getfield 22) by decide +kernel) (js_getf hA (jbg (by omega)) (show jw_fld 8 22 5 = some 3 by decide +kernel) rfl) ?_
      refine jr_1 jm_165 (show jw_cd cd_165 23 = some (.iload_n 3) by decide +kernel) rfl ?_
      refine jr_1 jm_165 (show jw_cd cd_165 24 = some (.aaload) by decide +kernel) (cal_a (e := .ref kv) (js_arr hK (jbg (by omega))) (Or.inl rfl) (by omega) (by omega) (by omega) (by rw [Int.toNat_natCast]; exact hgj)) ?_
      refine jr_1 jm_165 (show jw_cd cd_165 25 = some (.getfield 18) by decide +kernel) (js_getf (cl_old hl ⟨by omega, hkv⟩) (jbg (by omega)) (show jw_fld 8 18 5 = some 2 by decide +kernel) rfl) ?_
      refine jr_1 jm_165 (show jw_cd cd_165 28 = some (.aload_n 1) by decide +kernel) rfl ?_
      refine jr_c jm_165 (show jw_cd cd_165 29 = some (.invokevirtual 45) by decide +kernel) (ccv (n := 1) (m2 := 101) (ci := 9) (a := kt) (bs := [.ref t0]) (r := []) uc (show jw_find jw_cvT 8 45 = some (1, [(9, 101)]) by decide +kernel) (by decide) rfl rfl rfl) jm_101 ⟨Nat.le_of_ble_eq_true rfl, by decide⟩ (hq.1 he) ?_
      refine jr_1 jm_165 (show jw_cd cd_165 32 = some (.ifCond .eq 10) by decide +kernel) (mz_f (q := .eq) (a := 1) (by show ¬ (1 = 0); omega) ⟨by omega, by omega⟩ (by decide)) ?_
      refine jr_1 jm_165 (show jw_cd cd_165 35 = some (.aload_n 0) by decide +kernel) rfl ?_
      refine jr_1 jm_165 (show jw_cd cd_165 36 = some (.getfield 26) by decide +kernel) (js_getf hA (jbg (by omega)) (show jw_fld 8 26 5 = some 4 by decide +kernel) rfl) ?_
      refine jr_1 jm_165 (show jw_cd cd_165 39 = some (.iload_n 3) by decide +kernel) rfl ?_
      refine jr_1 jm_165 (show jw_cd cd_165 40 = some (.aaload) by decide +kernel) (cal_a (e := .ref b) (js_arr hI (jbg (by omega))) (Or.inl rfl) (by omega) (by omega) (by omega) (by rw [Int.toNat_natCast]; exact hfj)) ?_
      exact jr_v jm_165 (show jw_cd cd_165 41 = some (.areturn) by decide +kernel) rfl
    · rw [if_neg he] at ef
      rw [ef]
      obtain ⟨r1, r2⟩ := jc_atRL hl hv h6 ht hs hl0 t ka ia kc ic f g l1 l2 hA hK hI hsz n (j + 1) h3 hw.2.2 (by omega)
      have en : ∀ res, jx_r (jz β) jw_M (d + 2) 165 (2, [some (.ref a), some (.ref t0), some (.ref o), some (.int (Int32.ofInt (((j + 1 : Nat) : Int))))], [], (cl_mk h κ)) res → jx_r (jz β) jw_M (d + 2) 165 (2, [some (.ref a), some (.ref t0), some (.ref o), some (.int (Int32.ofInt (((j : Nat) : Int))))], [], (cl_mk h κ)) res := by
        intro res hr
        refine jr_1 jm_165 (show jw_cd cd_165 2 = some (.iload_n 3) by decide +kernel) rfl ?_
        refine jr_1 jm_165 (show jw_cd cd_165 3 = some (.aload_n 0) by decide +kernel) rfl ?_
        refine jr_1 jm_165 (show jw_cd cd_165 4 = some (.getfield 29) by decide +kernel) (js_getf hA (jbg (by omega)) (show jw_fld 8 29 5 = some 5 by decide +kernel) rfl) ?_
        refine jr_1 jm_165 (show jw_cd cd_165 7 = some (.if_icmp .ge 41) by decide +kernel) (mb_f (q := .ge) (a := ((j : Nat) : Int)) (b := ((fsz F0 : Nat) : Int)) (by show ¬ (((fsz F0 : Nat) : Int) ≤ ((j : Nat) : Int)); omega) ⟨by omega, by omega⟩ ⟨by omega, by omega⟩ (by decide)) ?_
        refine jr_1 jm_165 (show jw_cd cd_165 10 = some (.iload_n 3) by decide +kernel) rfl ?_
        refine jr_1 jm_165 (show jw_cd cd_165 11 = some (.aload_n 0) by decide +kernel) rfl ?_
        refine jr_1 jm_165 (show jw_cd cd_165 12 = some (.getfield 22) by decide +kernel) (js_getf hA (jbg (by omega)) (show jw_fld 8 22 5 = some 3 by decide +kernel) rfl) ?_
        refine jr_1 jm_165 (show jw_cd cd_165 15 = some (.arraylength) by decide +kernel) (cln (js_arr hK (jbg (by omega))) (by decide)) ?_
        refine jr_1 jm_165 (show jw_cd cd_165 16 = some (.if_icmp .ge 32) by decide +kernel) (mb_f (q := .ge) (a := ((j : Nat) : Int)) (b := ((kc : Nat) : Int)) (by show ¬ (((kc : Nat) : Int) ≤ ((j : Nat) : Int)); omega) ⟨by omega, by omega⟩ ⟨by omega, by omega⟩ (by decide)) ?_
        refine jr_1 jm_165 (show jw_cd cd_165 19 = some (.aload_n 0) by decide +kernel) rfl ?_
        refine jr_1 jm_165 (show jw_cd cd_165 20 = some (.getfield 22) by decide +kernel) (js_getf hA (jbg (by omega)) (show jw_fld 8 22 5 = some 3 by decide +kernel) rfl) ?_
        refine jr_1 jm_165 (show jw_cd cd_165 23 = some (.iload_n 3) by decide +kernel) rfl ?_
        refine jr_1 jm_165 (show jw_cd cd_165 24 = some (.aaload) by decide +kernel) (cal_a (e := .ref kv) (js_arr hK (jbg (by omega))) (Or.inl rfl) (by omega) (by omega) (by omega) (by rw [Int.toNat_natCast]; exact hgj)) ?_
        refine jr_1 jm_165 (show jw_cd cd_165 25 = some (.getfield 18) by decide +kernel) (js_getf (cl_old hl ⟨by omega, hkv⟩) (jbg (by omega)) (show jw_fld 8 18 5 = some 2 by decide +kernel) rfl) ?_
        refine jr_1 jm_165 (show jw_cd cd_165 28 = some (.aload_n 1) by decide +kernel) rfl ?_
        refine jr_c jm_165 (show jw_cd cd_165 29 = some (.invokevirtual 45) by decide +kernel) (ccv (n := 1) (m2 := 101) (ci := 9) (a := kt) (bs := [.ref t0]) (r := []) uc (show jw_find jw_cvT 8 45 = some (1, [(9, 101)]) by decide +kernel) (by decide) rfl rfl rfl) jm_101 ⟨Nat.le_of_ble_eq_true rfl, by decide⟩ (hq.2 he) ?_
        refine jr_1 jm_165 (show jw_cd cd_165 32 = some (.ifCond .eq 10) by decide +kernel) (mz_t (q := .eq) (a := 0) (t := 42) (by show 0 = 0; omega) ⟨by omega, by omega⟩ (by decide) (by decide)) ?_
        refine jr_1 jm_165 (F2 := (45, [some (.ref a), some (.ref t0), some (.ref o), some (.int (Int32.ofInt (((j : Nat) : Int) + 1)))], [], (cl_mk h κ))) (show jw_cd cd_165 42 = some (.iinc 3 1) by decide +kernel) (mt_inc (a := ((j : Nat) : Int)) (c := ((j : Nat) : Int) + 1) rfl (by omega) rfl) ?_
        refine jr_1 jm_165 (show jw_cd cd_165 45 = some (.goto (-43)) by decide +kernel) (ju_go (t := 2) (by decide)) ?_
        exact hr
      refine ⟨fun y hy => ?_, fun z => en _ (r2 z)⟩
      obtain ⟨b', b1, b2⟩ := r1 y hy
      exact ⟨b', en _ b1, b2⟩
theorem jc_atR {β : Bool} {d : Nat} {h : jx_H} {κ : mS} (hl : 50 ≤ h.length) {X Y : Nat → Prop} {a t0 o : Nat} {i : tI} {F : FT} {s : List Int} (hv : vO h κ X a i F) (hw : fwf F) (ht : strR h Y t0 s) (hs : tx s) : (∀ y, vget s i F = some y → ∃ b, jx_r (jz β) jw_M (d + 2) 165 (0, [some (.ref a), some (.ref t0), some (.ref o), none], [], (cl_mk h κ)) (cl_mk h (κ), .inl (some (.ref (b)))) ∧ vN h X b y.1 y.2) ∧ (vget s i F = none → jx_r (jz β) jw_M (d + 2) 165 (0, [some (.ref a), some (.ref t0), some (.ref o), none], [], (cl_mk h κ)) (cl_mk h κ, .inl (some (.ref o)))) := by
  obtain ⟨l0, t, ka, ia, kc, ic, f, g, ⟨l1, l2⟩, hA, hS, hK, hI, ⟨s1, s2⟩, or, hF⟩ := id hv
  have st : ∀ res, jx_r (jz β) jw_M (d + 2) 165 (2, [some (.ref a), some (.ref t0), some (.ref o), some (.int (Int32.ofInt (((0 : Nat) : Int))))], [], (cl_mk h κ)) res → jx_r (jz β) jw_M (d + 2) 165 (0, [some (.ref a), some (.ref t0), some (.ref o), none], [], (cl_mk h κ)) res := by
    intro res hr
    refine jr_1 jm_165 (show jw_cd cd_165 0 = some (.iconst 0) by decide +kernel) rfl ?_
    refine jr_1 jm_165 (F2 := (2, [some (.ref a), some (.ref t0), some (.ref o), some (.int (Int32.ofInt (0)))], [], (cl_mk h κ))) (show jw_cd cd_165 1 = some (.istore_n 3) by decide +kernel) rfl ?_
    exact hr
  unfold vget
  by_cases h6 : i.1 = 6
  · rw [if_pos h6]
    rw [decide_eq_true h6] at hF
    obtain ⟨r1, r2⟩ := jc_atRL (β := β) (d := d) (o := o) hl hv h6 ht hs l0 t ka ia kc ic f g l1 l2 hA hK hI (by omega) F 0 hF hw (by omega)
    refine ⟨fun y hy => ?_, fun z => st _ (r2 z)⟩
    obtain ⟨b', b1, b2⟩ := r1 y hy
    exact ⟨b', st _ b1, b2⟩
  · rw [if_neg h6]
    refine ⟨fun y hy => (by cases hy), fun _ => st _ ?_⟩
    obtain ⟨j, ej⟩ : ∃ j : Nat, j = 0 := ⟨_, rfl⟩
    rw [← ej]
    by_cases hz : fsz F = 0
    · refine jr_1 jm_165 (show jw_cd cd_165 2 = some (.iload_n 3) by decide +kernel) rfl ?_
      refine jr_1 jm_165 (show jw_cd cd_165 3 = some (.aload_n 0) by decide +kernel) rfl ?_
      refine jr_1 jm_165 (show jw_cd cd_165 4 = some (.getfield 29) by decide +kernel) (js_getf hA (jbg (by omega)) (show jw_fld 8 29 5 = some 5 by decide +kernel) rfl) ?_
      refine jr_1 jm_165 (show jw_cd cd_165 7 = some (.if_icmp .ge 41) by decide +kernel) (mb_t (q := .ge) (a := ((j : Nat) : Int)) (b := ((fsz F : Nat) : Int)) (t := 48) (by show ((fsz F : Nat) : Int) ≤ ((j : Nat) : Int); omega) ⟨by omega, by omega⟩ ⟨by omega, by omega⟩ (by decide) (by decide)) ?_
      refine jr_1 jm_165 (show jw_cd cd_165 48 = some (.aload_n 2) by decide +kernel) rfl ?_
      exact jr_v jm_165 (show jw_cd cd_165 49 = some (.areturn) by decide +kernel) rfl
    · refine jr_1 jm_165 (show jw_cd cd_165 2 = some (.iload_n 3) by decide +kernel) rfl ?_
      refine jr_1 jm_165 (show jw_cd cd_165 3 = some (.aload_n 0) by decide +kernel) rfl ?_
      refine jr_1 jm_165 (show jw_cd cd_165 4 = some (.getfield 29) by decide +kernel) (js_getf hA (jbg (by omega)) (show jw_fld 8 29 5 = some 5 by decide +kernel) rfl) ?_
      refine jr_1 jm_165 (show jw_cd cd_165 7 = some (.if_icmp .ge 41) by decide +kernel) (mb_f (q := .ge) (a := ((j : Nat) : Int)) (b := ((fsz F : Nat) : Int)) (by show ¬ (((fsz F : Nat) : Int) ≤ ((j : Nat) : Int)); omega) ⟨by omega, by omega⟩ ⟨by omega, by omega⟩ (by decide)) ?_
      refine jr_1 jm_165 (show jw_cd cd_165 10 = some (.iload_n 3) by decide +kernel) rfl ?_
      refine jr_1 jm_165 (show jw_cd cd_165 11 = some (.aload_n 0) by decide +kernel) rfl ?_
      refine jr_1 jm_165 (show jw_cd cd_165 12 = some (.getfield 22) by decide +kernel) (js_getf hA (jbg (by omega)) (show jw_fld 8 22 5 = some 3 by decide +kernel) rfl) ?_
      refine jr_1 jm_165 (show jw_cd cd_165 15 = some (.arraylength) by decide +kernel) (cln (js_arr hK (jbg (by omega))) (by decide)) ?_
      refine jr_1 jm_165 (show jw_cd cd_165 16 = some (.if_icmp .ge 32) by decide +kernel) (mb_t (q := .ge) (a := ((j : Nat) : Int)) (b := ((kc : Nat) : Int)) (t := 48) (by show ((kc : Nat) : Int) ≤ ((j : Nat) : Int); omega) ⟨by omega, by omega⟩ ⟨by omega, by omega⟩ (by decide) (by decide)) ?_
      refine jr_1 jm_165 (show jw_cd cd_165 48 = some (.aload_n 2) by decide +kernel) rfl ?_
      exact jr_v jm_165 (show jw_cd cd_165 49 = some (.areturn) by decide +kernel) rfl
theorem jc_atNL {β : Bool} {d : Nat} {h : jx_H} {κ : mS} (hl : 50 ≤ h.length) {X Y : Nat → Prop} {a t0 : Nat} {i : tI} {F0 : FT} {s : List Int} (hv : vO h κ X a i F0) (h6 : i.1 = 6) (ht : strR h Y t0 s) (hs : tx s) (hl0 : a < 4000000000) (t ka ia kc ic : Nat) (f g : Nat → Value) (l1 : ka < 4000000000) (l2 : ia < 4000000000) (hA : (cl_mk h κ)[a]? = some (.inr (5, [.int (Int32.ofInt (i.1)), .int (Int32.ofInt (i.2.1)), .ref t, .ref ka, .ref ia, .int (Int32.ofInt (((fsz F0 : Nat) : Int)))]))) (hK : (cl_mk h κ)[ka]? = some (.inl (4, kc, g))) (hI : (cl_mk h κ)[ia]? = some (.inl (4, ic, f))) (hsz : fsz F0 ≤ ic ∧ ic ≤ 1000000 ∧ fsz F0 ≤ kc ∧ kc ≤ 1000000) : ∀ (F : FT) (j : Nat), vF h X F true f g j → fwf F → j + fsz F = fsz F0 → (∀ y, fget s F = some y → ∃ b, jx_r (jz β) jw_M (d + 2) 165 (2, [some (.ref a), some (.ref t0), some (.null), some (.int (Int32.ofInt (((j : Nat) : Int))))], [], (cl_mk h κ)) (cl_mk h (κ), .inl (some (.ref (b)))) ∧ vN h X b y.1 y.2) ∧ (fget s F = none → jx_r (jz β) jw_M (d + 2) 165 (2, [some (.ref a), some (.ref t0), some (.null), some (.int (Int32.ofInt (((j : Nat) : Int))))], [], (cl_mk h κ)) (cl_mk h κ, .inl (some (.null))))
  | .leaf, j, _, _, hj => by
    have hj : j + 0 = fsz F0 := hj
    refine ⟨fun y hy => (by cases hy), fun _ => ?_⟩
    refine jr_1 jm_165 (show jw_cd cd_165 2 = some (.iload_n 3) by decide +kernel) rfl ?_
    refine jr_1 jm_165 (show jw_cd cd_165 3 = some (.aload_n 0) by decide +kernel) rfl ?_
    refine jr_1 jm_165 (show jw_cd cd_165 4 = some (.getfield 29) by decide +kernel) (js_getf hA (jbg (by omega)) (show jw_fld 8 29 5 = some 5 by decide +kernel) rfl) ?_
    refine jr_1 jm_165 (show jw_cd cd_165 7 = some (.if_icmp .ge 41) by decide +kernel) (mb_t (q := .ge) (a := ((j : Nat) : Int)) (b := ((fsz F0 : Nat) : Int)) (t := 48) (by show ((fsz F0 : Nat) : Int) ≤ ((j : Nat) : Int); omega) ⟨by omega, by omega⟩ ⟨by omega, by omega⟩ (by decide) (by decide)) ?_
    refine jr_1 jm_165 (show jw_cd cd_165 48 = some (.aload_n 2) by decide +kernel) rfl ?_
    exact jr_v jm_165 (show jw_cd cd_165 49 = some (.areturn) by decide +kernel) rfl
  | .inner s0 i0 u0 e n, j, hvF, hw, hj => by
    have hj : j + (fsz n + 1) = fsz F0 := hj
    obtain ⟨⟨b, hfj, hb⟩, h2, h3⟩ := hvF
    obtain ⟨kv, hgj, zk, kt, kka, kia, kkc, kic, kf, kg, zka, zkia, hkv, hkt, -⟩ := h2 rfl
    have zk1 := zk.1
    have zk2 := zk.2.1
    have hkt : strR h X kt i0.2.2.2 := hkt
    obtain ⟨uc, ua, kb, kf1, u0', u1, -⟩ := strR_q (β := β) (κ := κ) hl hkt
    have wi : tx i0.2.2.2 := hw.1.2.2.2.2
    have hq := jc_eq (β := β) (d := d) (κ := κ) hl hkt ht (fun c hc => by have := wi.2 c hc; omega) (fun c hc => by have := hs.2 c hc; omega) (by have := wi.1; omega) (by have := hs.1; omega)
    have ef : fget s (.inner s0 i0 u0 e n) = if i0.2.2.2 = s then some (i0, e) else fget s n := rfl
    by_cases he : i0.2.2.2 = s
    · rw [if_pos he] at ef
      rw [ef]
      refine ⟨fun y hy => ?_, fun z => (by cases z)⟩
      injection hy with hy
      rw [← hy]
      refine ⟨b, ?_, hb⟩
      refine jr_1 jm_165 (show jw_cd cd_165 2 = some (.iload_n 3) by decide +kernel) rfl ?_
      refine jr_1 jm_165 (show jw_cd cd_165 3 = some (.aload_n 0) by decide +kernel) rfl ?_
      refine jr_1 jm_165 (show jw_cd cd_165 4 = some (.getfield 29) by decide +kernel) (js_getf hA (jbg (by omega)) (show jw_fld 8 29 5 = some 5 by decide +kernel) rfl) ?_
      refine jr_1 jm_165 (show jw_cd cd_165 7 = some (.if_icmp .ge 41) by decide +kernel) (mb_f (q := .ge) (a := ((j : Nat) : Int)) (b := ((fsz F0 : Nat) : Int)) (by show ¬ (((fsz F0 : Nat) : Int) ≤ ((j : Nat) : Int)); omega) ⟨by omega, by omega⟩ ⟨by omega, by omega⟩ (by decide)) ?_
      refine jr_1 jm_165 (show jw_cd cd_165 10 = some (.iload_n 3) by decide +kernel) rfl ?_
      refine jr_1 jm_165 (show jw_cd cd_165 11 = some (.aload_n 0) by decide +kernel) rfl ?_
      refine jr_1 jm_165 (show jw_cd cd_165 12 = some (.getfield 22) by decide +kernel) (js_getf hA (jbg (by omega)) (show jw_fld 8 22 5 = some 3 by decide +kernel) rfl) ?_
      refine jr_1 jm_165 (show jw_cd cd_165 15 = some (.arraylength) by decide +kernel) (cln (js_arr hK (jbg (by omega))) (by decide)) ?_
      refine jr_1 jm_165 (show jw_cd cd_165 16 = some (.if_icmp .ge 32) by decide +kernel) (mb_f (q := .ge) (a := ((j : Nat) : Int)) (b := ((kc : Nat) : Int)) (by show ¬ (((kc : Nat) : Int) ≤ ((j : Nat) : Int)); omega) ⟨by omega, by omega⟩ ⟨by omega, by omega⟩ (by decide)) ?_
      refine jr_1 jm_165 (show jw_cd cd_165 19 = some (.aload_n 0) by decide +kernel) rfl ?_
      refine jr_1 jm_165 (show jw_cd cd_165 20 = some (.getfield 22) by decide +kernel) (js_getf hA (jbg (by omega)) (show jw_fld 8 22 5 = some 3 by decide +kernel) rfl) ?_
      refine jr_1 jm_165 (show jw_cd cd_165 23 = some (.iload_n 3) by decide +kernel) rfl ?_
      refine jr_1 jm_165 (show jw_cd cd_165 24 = some (.aaload) by decide +kernel) (cal_a (e := .ref kv) (js_arr hK (jbg (by omega))) (Or.inl rfl) (by omega) (by omega) (by omega) (by rw [Int.toNat_natCast]; exact hgj)) ?_
      refine jr_1 jm_165 (show jw_cd cd_165 25 = some (.getfield 18) by decide +kernel) (js_getf (cl_old hl ⟨by omega, hkv⟩) (jbg (by omega)) (show jw_fld 8 18 5 = some 2 by decide +kernel) rfl) ?_
      refine jr_1 jm_165 (show jw_cd cd_165 28 = some (.aload_n 1) by decide +kernel) rfl ?_
      refine jr_c jm_165 (show jw_cd cd_165 29 = some (.invokevirtual 45) by decide +kernel) (ccv (n := 1) (m2 := 101) (ci := 9) (a := kt) (bs := [.ref t0]) (r := []) uc (show jw_find jw_cvT 8 45 = some (1, [(9, 101)]) by decide +kernel) (by decide) rfl rfl rfl) jm_101 ⟨Nat.le_of_ble_eq_true rfl, by decide⟩ (hq.1 he) ?_
      refine jr_1 jm_165 (show jw_cd cd_165 32 = some (.ifCond .eq 10) by decide +kernel) (mz_f (q := .eq) (a := 1) (by show ¬ (1 = 0); omega) ⟨by omega, by omega⟩ (by decide)) ?_
      refine jr_1 jm_165 (show jw_cd cd_165 35 = some (.aload_n 0) by decide +kernel) rfl ?_
      refine jr_1 jm_165 (show jw_cd cd_165 36 = some (.getfield 26) by decide +kernel) (js_getf hA (jbg (by omega)) (show jw_fld 8 26 5 = some 4 by decide +kernel) rfl) ?_
      refine jr_1 jm_165 (show jw_cd cd_165 39 = some (.iload_n 3) by decide +kernel) rfl ?_
      refine jr_1 jm_165 (show jw_cd cd_165 40 = some (.aaload) by decide +kernel) (cal_a (e := .ref b) (js_arr hI (jbg (by omega))) (Or.inl rfl) (by omega) (by omega) (by omega) (by rw [Int.toNat_natCast]; exact hfj)) ?_
      exact jr_v jm_165 (show jw_cd cd_165 41 = some (.areturn) by decide +kernel) rfl
    · rw [if_neg he] at ef
      rw [ef]
      obtain ⟨r1, r2⟩ := jc_atNL hl hv h6 ht hs hl0 t ka ia kc ic f g l1 l2 hA hK hI hsz n (j + 1) h3 hw.2.2 (by omega)
      have en : ∀ res, jx_r (jz β) jw_M (d + 2) 165 (2, [some (.ref a), some (.ref t0), some (.null), some (.int (Int32.ofInt (((j + 1 : Nat) : Int))))], [], (cl_mk h κ)) res → jx_r (jz β) jw_M (d + 2) 165 (2, [some (.ref a), some (.ref t0), some (.null), some (.int (Int32.ofInt (((j : Nat) : Int))))], [], (cl_mk h κ)) res := by
        intro res hr
        refine jr_1 jm_165 (show jw_cd cd_165 2 = some (.iload_n 3) by decide +kernel) rfl ?_
        refine jr_1 jm_165 (show jw_cd cd_165 3 = some (.aload_n 0) by decide +kernel) rfl ?_
        refine jr_1 jm_165 (show jw_cd cd_165 4 = some (.getfield 29) by decide +kernel) (js_getf hA (jbg (by omega)) (show jw_fld 8 29 5 = some 5 by decide +kernel) rfl) ?_
        refine jr_1 jm_165 (show jw_cd cd_165 7 = some (.if_icmp .ge 41) by decide +kernel) (mb_f (q := .ge) (a := ((j : Nat) : Int)) (b := ((fsz F0 : Nat) : Int)) (by show ¬ (((fsz F0 : Nat) : Int) ≤ ((j : Nat) : Int)); omega) ⟨by omega, by omega⟩ ⟨by omega, by omega⟩ (by decide)) ?_
        refine jr_1 jm_165 (show jw_cd cd_165 10 = some (.iload_n 3) by decide +kernel) rfl ?_
        refine jr_1 jm_165 (show jw_cd cd_165 11 = some (.aload_n 0) by decide +kernel) rfl ?_
        refine jr_1 jm_165 (show jw_cd cd_165 12 = some (.getfield 22) by decide +kernel) (js_getf hA (jbg (by omega)) (show jw_fld 8 22 5 = some 3 by decide +kernel) rfl) ?_
        refine jr_1 jm_165 (show jw_cd cd_165 15 = some (.arraylength) by decide +kernel) (cln (js_arr hK (jbg (by omega))) (by decide)) ?_
        refine jr_1 jm_165 (show jw_cd cd_165 16 = some (.if_icmp .ge 32) by decide +kernel) (mb_f (q := .ge) (a := ((j : Nat) : Int)) (b := ((kc : Nat) : Int)) (by show ¬ (((kc : Nat) : Int) ≤ ((j : Nat) : Int)); omega) ⟨by omega, by omega⟩ ⟨by omega, by omega⟩ (by decide)) ?_
        refine jr_1 jm_165 (show jw_cd cd_165 19 = some (.aload_n 0) by decide +kernel) rfl ?_
        refine jr_1 jm_165 (show jw_cd cd_165 20 = some (.getfield 22) by decide +kernel) (js_getf hA (jbg (by omega)) (show jw_fld 8 22 5 = some 3 by decide +kernel) rfl) ?_
        refine jr_1 jm_165 (show jw_cd cd_165 23 = some (.iload_n 3) by decide +kernel) rfl ?_
        refine jr_1 jm_165 (show jw_cd cd_165 24 = some (.aaload) by decide +kernel) (cal_a (e := .ref kv) (js_arr hK (jbg (by omega))) (Or.inl rfl) (by omega) (by omega) (by omega) (by rw [Int.toNat_natCast]; exact hgj)) ?_
        refine jr_1 jm_165 (show jw_cd cd_165 25 = some (.getfield 18) by decide +kernel) (js_getf (cl_old hl ⟨by omega, hkv⟩) (jbg (by omega)) (show jw_fld 8 18 5 = some 2 by decide +kernel) rfl) ?_
        refine jr_1 jm_165 (show jw_cd cd_165 28 = some (.aload_n 1) by decide +kernel) rfl ?_
        refine jr_c jm_165 (show jw_cd cd_165 29 = some (.invokevirtual 45) by decide +kernel) (ccv (n := 1) (m2 := 101) (ci := 9) (a := kt) (bs := [.ref t0]) (r := []) uc (show jw_find jw_cvT 8 45 = some (1, [(9, 101)]) by decide +kernel) (by decide) rfl rfl rfl) jm_101 ⟨Nat.le_of_ble_eq_true rfl, by decide⟩ (hq.2 he) ?_
        refine jr_1 jm_165 (show jw_cd cd_165 32 = some (.ifCond .eq 10) by decide +kernel) (mz_t (q := .eq) (a := 0) (t := 42) (by show 0 = 0; omega) ⟨by omega, by omega⟩ (by decide) (by decide)) ?_
        refine jr_1 jm_165 (F2 := (45, [some (.ref a), some (.ref t0), some (.null), some (.int (Int32.ofInt (((j : Nat) : Int) + 1)))], [], (cl_mk h κ))) (show jw_cd cd_165 42 = some (.iinc 3 1) by decide +kernel) (mt_inc (a := ((j : Nat) : Int)) (c := ((j : Nat) : Int) + 1) rfl (by omega) rfl) ?_
        refine jr_1 jm_165 (show jw_cd cd_165 45 = some (.goto (-43)) by decide +kernel) (ju_go (t := 2) (by decide)) ?_
        exact hr
      refine ⟨fun y hy => ?_, fun z => en _ (r2 z)⟩
      obtain ⟨b', b1, b2⟩ := r1 y hy
      exact ⟨b', en _ b1, b2⟩
theorem jc_atN {β : Bool} {d : Nat} {h : jx_H} {κ : mS} (hl : 50 ≤ h.length) {X Y : Nat → Prop} {a t0 : Nat} {i : tI} {F : FT} {s : List Int} (hv : vO h κ X a i F) (hw : fwf F) (ht : strR h Y t0 s) (hs : tx s) : (∀ y, vget s i F = some y → ∃ b, jx_r (jz β) jw_M (d + 2) 165 (0, [some (.ref a), some (.ref t0), some (.null), none], [], (cl_mk h κ)) (cl_mk h (κ), .inl (some (.ref (b)))) ∧ vN h X b y.1 y.2) ∧ (vget s i F = none → jx_r (jz β) jw_M (d + 2) 165 (0, [some (.ref a), some (.ref t0), some (.null), none], [], (cl_mk h κ)) (cl_mk h κ, .inl (some (.null)))) := by
  obtain ⟨l0, t, ka, ia, kc, ic, f, g, ⟨l1, l2⟩, hA, hS, hK, hI, ⟨s1, s2⟩, or, hF⟩ := id hv
  have st : ∀ res, jx_r (jz β) jw_M (d + 2) 165 (2, [some (.ref a), some (.ref t0), some (.null), some (.int (Int32.ofInt (((0 : Nat) : Int))))], [], (cl_mk h κ)) res → jx_r (jz β) jw_M (d + 2) 165 (0, [some (.ref a), some (.ref t0), some (.null), none], [], (cl_mk h κ)) res := by
    intro res hr
    refine jr_1 jm_165 (show jw_cd cd_165 0 = some (.iconst 0) by decide +kernel) rfl ?_
    refine jr_1 jm_165 (F2 := (2, [some (.ref a), some (.ref t0), some (.null), some (.int (Int32.ofInt (0)))], [], (cl_mk h κ))) (show jw_cd cd_165 1 = some (.istore_n 3) by decide +kernel) rfl ?_
    exact hr
  unfold vget
  by_cases h6 : i.1 = 6
  · rw [if_pos h6]
    rw [decide_eq_true h6] at hF
    obtain ⟨r1, r2⟩ := jc_atNL (β := β) (d := d) hl hv h6 ht hs l0 t ka ia kc ic f g l1 l2 hA hK hI (by omega) F 0 hF hw (by omega)
    refine ⟨fun y hy => ?_, fun z => st _ (r2 z)⟩
    obtain ⟨b', b1, b2⟩ := r1 y hy
    exact ⟨b', st _ b1, b2⟩
  · rw [if_neg h6]
    refine ⟨fun y hy => (by cases hy), fun _ => st _ ?_⟩
    obtain ⟨j, ej⟩ : ∃ j : Nat, j = 0 := ⟨_, rfl⟩
    rw [← ej]
    by_cases hz : fsz F = 0
    · refine jr_1 jm_165 (show jw_cd cd_165 2 = some (.iload_n 3) by decide +kernel) rfl ?_
      refine jr_1 jm_165 (show jw_cd cd_165 3 = some (.aload_n 0) by decide +kernel) rfl ?_
      refine jr_1 jm_165 (show jw_cd cd_165 4 = some (.getfield 29) by decide +kernel) (js_getf hA (jbg (by omega)) (show jw_fld 8 29 5 = some 5 by decide +kernel) rfl) ?_
      refine jr_1 jm_165 (show jw_cd cd_165 7 = some (.if_icmp .ge 41) by decide +kernel) (mb_t (q := .ge) (a := ((j : Nat) : Int)) (b := ((fsz F : Nat) : Int)) (t := 48) (by show ((fsz F : Nat) : Int) ≤ ((j : Nat) : Int); omega) ⟨by omega, by omega⟩ ⟨by omega, by omega⟩ (by decide) (by decide)) ?_
      refine jr_1 jm_165 (show jw_cd cd_165 48 = some (.aload_n 2) by decide +kernel) rfl ?_
      exact jr_v jm_165 (show jw_cd cd_165 49 = some (.areturn) by decide +kernel) rfl
    · refine jr_1 jm_165 (show jw_cd cd_165 2 = some (.iload_n 3) by decide +kernel) rfl ?_
      refine jr_1 jm_165 (show jw_cd cd_165 3 = some (.aload_n 0) by decide +kernel) rfl ?_
      refine jr_1 jm_165 (show jw_cd cd_165 4 = some (.getfield 29) by decide +kernel) (js_getf hA (jbg (by omega)) (show jw_fld 8 29 5 = some 5 by decide +kernel) rfl) ?_
      refine jr_1 jm_165 (show jw_cd cd_165 7 = some (.if_icmp .ge 41) by decide +kernel) (mb_f (q := .ge) (a := ((j : Nat) : Int)) (b := ((fsz F : Nat) : Int)) (by show ¬ (((fsz F : Nat) : Int) ≤ ((j : Nat) : Int)); omega) ⟨by omega, by omega⟩ ⟨by omega, by omega⟩ (by decide)) ?_
      refine jr_1 jm_165 (show jw_cd cd_165 10 = some (.iload_n 3) by decide +kernel) rfl ?_
      refine jr_1 jm_165 (show jw_cd cd_165 11 = some (.aload_n 0) by decide +kernel) rfl ?_
      refine jr_1 jm_165 (show jw_cd cd_165 12 = some (.getfield 22) by decide +kernel) (js_getf hA (jbg (by omega)) (show jw_fld 8 22 5 = some 3 by decide +kernel) rfl) ?_
      refine jr_1 jm_165 (show jw_cd cd_165 15 = some (.arraylength) by decide +kernel) (cln (js_arr hK (jbg (by omega))) (by decide)) ?_
      refine jr_1 jm_165 (show jw_cd cd_165 16 = some (.if_icmp .ge 32) by decide +kernel) (mb_t (q := .ge) (a := ((j : Nat) : Int)) (b := ((kc : Nat) : Int)) (t := 48) (by show ((kc : Nat) : Int) ≤ ((j : Nat) : Int); omega) ⟨by omega, by omega⟩ ⟨by omega, by omega⟩ (by decide) (by decide)) ?_
      refine jr_1 jm_165 (show jw_cd cd_165 48 = some (.aload_n 2) by decide +kernel) rfl ?_
      exact jr_v jm_165 (show jw_cd cd_165 49 = some (.areturn) by decide +kernel) rfl
theorem jc_elem {β : Bool} {d : Nat} {h : jx_H} {κ : mS} (hl : 50 ≤ h.length) {X : Nat → Prop} {a o : Nat} {v : vT} {x : Int} (hv : vO h κ X a v.1 v.2) (hx : -1000001 ≤ x ∧ x ≤ 1000001) (hk : 0 ≤ v.1.1 ∧ v.1.1 ≤ 6) : (∀ y, idxS x v = some y → ∃ b, jx_r (jz β) jw_M (d) 166 (0, [some (.ref a), some (.int (Int32.ofInt (x))), some (.ref o), none], [], (cl_mk h κ)) (cl_mk h (κ), .inl (some (.ref (b)))) ∧ vN h X b y.1 y.2) ∧ (idxS x v = none → jx_r (jz β) jw_M (d) 166 (0, [some (.ref a), some (.int (Int32.ofInt (x))), some (.ref o), none], [], (cl_mk h κ)) (cl_mk h (κ), .inl (some (.ref (o))))) := by
  obtain ⟨i, F⟩ := v
  have hv : vO h κ X a i F := hv
  have hk : 0 ≤ i.1 ∧ i.1 ≤ 6 := hk
  obtain ⟨l0, t, ka, ia, kc, ic, f, g, ⟨l1, l2⟩, hA, hS, hK, hI, ⟨s1, s2⟩, or, hF⟩ := id hv
  unfold idxS
  show (∀ y, (if i.1 = 5 ∧ 0 ≤ idxK x (fsz F) ∧ idxK x (fsz F) < fsz F then (sib F)[(idxK x (fsz F)).toNat]? else none) = some y → _) ∧ ((if i.1 = 5 ∧ 0 ≤ idxK x (fsz F) ∧ idxK x (fsz F) < fsz F then (sib F)[(idxK x (fsz F)).toNat]? else none) = none → _)
  have ek : idxK x (fsz F) = if x < 0 then x + (fsz F : Int) else x := rfl
  by_cases h5 : ¬ i.1 = 5
  · rw [if_neg (fun z => h5 z.1)]
    refine ⟨fun y hy => (by cases hy), fun _ => ?_⟩
    by_cases hx0 : x < 0
    · refine jr_1 jm_166 (show jw_cd cd_166 0 = some (.iload_n 1) by decide +kernel) rfl ?_
      refine jr_1 jm_166 (show jw_cd cd_166 1 = some (.ifCond .ge 12) by decide +kernel) (mz_f (q := .ge) (a := x) (by show ¬ (0 ≤ x); omega) ⟨by omega, by omega⟩ (by decide)) ?_
      refine jr_1 jm_166 (show jw_cd cd_166 4 = some (.iload_n 1) by decide +kernel) rfl ?_
      refine jr_1 jm_166 (show jw_cd cd_166 5 = some (.aload_n 0) by decide +kernel) rfl ?_
      refine jr_1 jm_166 (show jw_cd cd_166 6 = some (.getfield 29) by decide +kernel) (js_getf hA (jbg (by omega)) (show jw_fld 8 29 5 = some 5 by decide +kernel) rfl) ?_
      refine jr_1 jm_166 (show jw_cd cd_166 9 = some (.iadd) by decide +kernel) (mt_add (c := x + (((fsz F : Nat) : Int))) rfl) ?_
      refine jr_1 jm_166 (show jw_cd cd_166 10 = some (.goto 4) by decide +kernel) (ju_go (t := 14) (by decide)) ?_
      refine jr_1 jm_166 (F2 := (15, [some (.ref a), some (.int (Int32.ofInt (x))), some (.ref o), some (.int (Int32.ofInt (x + (((fsz F : Nat) : Int)))))], [], (cl_mk h κ))) (show jw_cd cd_166 14 = some (.istore_n 3) by decide +kernel) rfl ?_
      refine jr_1 jm_166 (show jw_cd cd_166 15 = some (.aload_n 0) by decide +kernel) rfl ?_
      refine jr_1 jm_166 (show jw_cd cd_166 16 = some (.getfield 9) by decide +kernel) (js_getf hA (jbg (by omega)) (show jw_fld 8 9 5 = some 0 by decide +kernel) rfl) ?_
      refine jr_1 jm_166 (show jw_cd cd_166 19 = some (.iconst 5) by decide +kernel) rfl ?_
      refine jr_1 jm_166 (show jw_cd cd_166 20 = some (.if_icmp .ne 24) by decide +kernel) (mb_t (q := .ne) (a := i.1) (b := 5) (t := 44) (by show ¬ (i.1 = 5); omega) ⟨by omega, by omega⟩ ⟨by omega, by omega⟩ (by decide) (by decide)) ?_
      refine jr_1 jm_166 (show jw_cd cd_166 44 = some (.aload_n 2) by decide +kernel) rfl ?_
      exact jr_v jm_166 (show jw_cd cd_166 45 = some (.areturn) by decide +kernel) rfl
    · refine jr_1 jm_166 (show jw_cd cd_166 0 = some (.iload_n 1) by decide +kernel) rfl ?_
      refine jr_1 jm_166 (show jw_cd cd_166 1 = some (.ifCond .ge 12) by decide +kernel) (mz_t (q := .ge) (a := x) (t := 13) (by show 0 ≤ x; omega) ⟨by omega, by omega⟩ (by decide) (by decide)) ?_
      refine jr_1 jm_166 (show jw_cd cd_166 13 = some (.iload_n 1) by decide +kernel) rfl ?_
      refine jr_1 jm_166 (F2 := (15, [some (.ref a), some (.int (Int32.ofInt (x))), some (.ref o), some (.int (Int32.ofInt (x)))], [], (cl_mk h κ))) (show jw_cd cd_166 14 = some (.istore_n 3) by decide +kernel) rfl ?_
      refine jr_1 jm_166 (show jw_cd cd_166 15 = some (.aload_n 0) by decide +kernel) rfl ?_
      refine jr_1 jm_166 (show jw_cd cd_166 16 = some (.getfield 9) by decide +kernel) (js_getf hA (jbg (by omega)) (show jw_fld 8 9 5 = some 0 by decide +kernel) rfl) ?_
      refine jr_1 jm_166 (show jw_cd cd_166 19 = some (.iconst 5) by decide +kernel) rfl ?_
      refine jr_1 jm_166 (show jw_cd cd_166 20 = some (.if_icmp .ne 24) by decide +kernel) (mb_t (q := .ne) (a := i.1) (b := 5) (t := 44) (by show ¬ (i.1 = 5); omega) ⟨by omega, by omega⟩ ⟨by omega, by omega⟩ (by decide) (by decide)) ?_
      refine jr_1 jm_166 (show jw_cd cd_166 44 = some (.aload_n 2) by decide +kernel) rfl ?_
      exact jr_v jm_166 (show jw_cd cd_166 45 = some (.areturn) by decide +kernel) rfl
  have h5 : i.1 = 5 := by omega
  by_cases hlo : idxK x (fsz F) < 0
  · rw [if_neg (by omega)]
    refine ⟨fun y hy => (by cases hy), fun _ => ?_⟩
    rw [ek] at hlo
    have hx0 : x < 0 := by
      by_cases z : x < 0
      · exact z
      · rw [if_neg z] at hlo; exact hlo
    rw [if_pos hx0] at hlo
    refine jr_1 jm_166 (show jw_cd cd_166 0 = some (.iload_n 1) by decide +kernel) rfl ?_
    refine jr_1 jm_166 (show jw_cd cd_166 1 = some (.ifCond .ge 12) by decide +kernel) (mz_f (q := .ge) (a := x) (by show ¬ (0 ≤ x); omega) ⟨by omega, by omega⟩ (by decide)) ?_
    refine jr_1 jm_166 (show jw_cd cd_166 4 = some (.iload_n 1) by decide +kernel) rfl ?_
    refine jr_1 jm_166 (show jw_cd cd_166 5 = some (.aload_n 0) by decide +kernel) rfl ?_
    refine jr_1 jm_166 (show jw_cd cd_166 6 = some (.getfield 29) by decide +kernel) (js_getf hA (jbg (by omega)) (show jw_fld 8 29 5 = some 5 by decide +kernel) rfl) ?_
    refine jr_1 jm_166 (show jw_cd cd_166 9 = some (.iadd) by decide +kernel) (mt_add (c := x + (((fsz F : Nat) : Int))) rfl) ?_
    refine jr_1 jm_166 (show jw_cd cd_166 10 = some (.goto 4) by decide +kernel) (ju_go (t := 14) (by decide)) ?_
    refine jr_1 jm_166 (F2 := (15, [some (.ref a), some (.int (Int32.ofInt (x))), some (.ref o), some (.int (Int32.ofInt (x + (((fsz F : Nat) : Int)))))], [], (cl_mk h κ))) (show jw_cd cd_166 14 = some (.istore_n 3) by decide +kernel) rfl ?_
    refine jr_1 jm_166 (show jw_cd cd_166 15 = some (.aload_n 0) by decide +kernel) rfl ?_
    refine jr_1 jm_166 (show jw_cd cd_166 16 = some (.getfield 9) by decide +kernel) (js_getf hA (jbg (by omega)) (show jw_fld 8 9 5 = some 0 by decide +kernel) rfl) ?_
    refine jr_1 jm_166 (show jw_cd cd_166 19 = some (.iconst 5) by decide +kernel) rfl ?_
    refine jr_1 jm_166 (show jw_cd cd_166 20 = some (.if_icmp .ne 24) by decide +kernel) (mb_f (q := .ne) (a := i.1) (b := 5) (by show ¬ (¬ (i.1 = 5)); omega) ⟨by omega, by omega⟩ ⟨by omega, by omega⟩ (by decide)) ?_
    refine jr_1 jm_166 (show jw_cd cd_166 23 = some (.iload_n 3) by decide +kernel) rfl ?_
    refine jr_1 jm_166 (show jw_cd cd_166 24 = some (.ifCond .lt 20) by decide +kernel) (mz_t (q := .lt) (a := x + (((fsz F : Nat) : Int))) (t := 44) (by show x + (((fsz F : Nat) : Int)) < 0; omega) ⟨by omega, by omega⟩ (by decide) (by decide)) ?_
    refine jr_1 jm_166 (show jw_cd cd_166 44 = some (.aload_n 2) by decide +kernel) rfl ?_
    exact jr_v jm_166 (show jw_cd cd_166 45 = some (.areturn) by decide +kernel) rfl
  by_cases hhi : ¬ idxK x (fsz F) < fsz F
  · rw [if_neg (by omega)]
    refine ⟨fun y hy => (by cases hy), fun _ => ?_⟩
    rw [ek] at hhi hlo
    by_cases hx0 : x < 0 <;> simp only [hx0, if_true, if_false] at hlo hhi
    · refine jr_1 jm_166 (show jw_cd cd_166 0 = some (.iload_n 1) by decide +kernel) rfl ?_
      refine jr_1 jm_166 (show jw_cd cd_166 1 = some (.ifCond .ge 12) by decide +kernel) (mz_f (q := .ge) (a := x) (by show ¬ (0 ≤ x); omega) ⟨by omega, by omega⟩ (by decide)) ?_
      refine jr_1 jm_166 (show jw_cd cd_166 4 = some (.iload_n 1) by decide +kernel) rfl ?_
      refine jr_1 jm_166 (show jw_cd cd_166 5 = some (.aload_n 0) by decide +kernel) rfl ?_
      refine jr_1 jm_166 (show jw_cd cd_166 6 = some (.getfield 29) by decide +kernel) (js_getf hA (jbg (by omega)) (show jw_fld 8 29 5 = some 5 by decide +kernel) rfl) ?_
      refine jr_1 jm_166 (show jw_cd cd_166 9 = some (.iadd) by decide +kernel) (mt_add (c := x + (((fsz F : Nat) : Int))) rfl) ?_
      refine jr_1 jm_166 (show jw_cd cd_166 10 = some (.goto 4) by decide +kernel) (ju_go (t := 14) (by decide)) ?_
      refine jr_1 jm_166 (F2 := (15, [some (.ref a), some (.int (Int32.ofInt (x))), some (.ref o), some (.int (Int32.ofInt (x + (((fsz F : Nat) : Int)))))], [], (cl_mk h κ))) (show jw_cd cd_166 14 = some (.istore_n 3) by decide +kernel) rfl ?_
      refine jr_1 jm_166 (show jw_cd cd_166 15 = some (.aload_n 0) by decide +kernel) rfl ?_
      refine jr_1 jm_166 (show jw_cd cd_166 16 = some (.getfield 9) by decide +kernel) (js_getf hA (jbg (by omega)) (show jw_fld 8 9 5 = some 0 by decide +kernel) rfl) ?_
      refine jr_1 jm_166 (show jw_cd cd_166 19 = some (.iconst 5) by decide +kernel) rfl ?_
      refine jr_1 jm_166 (show jw_cd cd_166 20 = some (.if_icmp .ne 24) by decide +kernel) (mb_f (q := .ne) (a := i.1) (b := 5) (by show ¬ (¬ (i.1 = 5)); omega) ⟨by omega, by omega⟩ ⟨by omega, by omega⟩ (by decide)) ?_
      refine jr_1 jm_166 (show jw_cd cd_166 23 = some (.iload_n 3) by decide +kernel) rfl ?_
      refine jr_1 jm_166 (show jw_cd cd_166 24 = some (.ifCond .lt 20) by decide +kernel) (mz_f (q := .lt) (a := x + (((fsz F : Nat) : Int))) (by show ¬ (x + (((fsz F : Nat) : Int)) < 0); omega) ⟨by omega, by omega⟩ (by decide)) ?_
      refine jr_1 jm_166 (show jw_cd cd_166 27 = some (.iload_n 3) by decide +kernel) rfl ?_
      refine jr_1 jm_166 (show jw_cd cd_166 28 = some (.aload_n 0) by decide +kernel) rfl ?_
      refine jr_1 jm_166 (show jw_cd cd_166 29 = some (.getfield 29) by decide +kernel) (js_getf hA (jbg (by omega)) (show jw_fld 8 29 5 = some 5 by decide +kernel) rfl) ?_
      refine jr_1 jm_166 (show jw_cd cd_166 32 = some (.if_icmp .ge 12) by decide +kernel) (mb_t (q := .ge) (a := x + (((fsz F : Nat) : Int))) (b := ((fsz F : Nat) : Int)) (t := 44) (by show ((fsz F : Nat) : Int) ≤ x + (((fsz F : Nat) : Int)); omega) ⟨by omega, by omega⟩ ⟨by omega, by omega⟩ (by decide) (by decide)) ?_
      refine jr_1 jm_166 (show jw_cd cd_166 44 = some (.aload_n 2) by decide +kernel) rfl ?_
      exact jr_v jm_166 (show jw_cd cd_166 45 = some (.areturn) by decide +kernel) rfl
    · refine jr_1 jm_166 (show jw_cd cd_166 0 = some (.iload_n 1) by decide +kernel) rfl ?_
      refine jr_1 jm_166 (show jw_cd cd_166 1 = some (.ifCond .ge 12) by decide +kernel) (mz_t (q := .ge) (a := x) (t := 13) (by show 0 ≤ x; omega) ⟨by omega, by omega⟩ (by decide) (by decide)) ?_
      refine jr_1 jm_166 (show jw_cd cd_166 13 = some (.iload_n 1) by decide +kernel) rfl ?_
      refine jr_1 jm_166 (F2 := (15, [some (.ref a), some (.int (Int32.ofInt (x))), some (.ref o), some (.int (Int32.ofInt (x)))], [], (cl_mk h κ))) (show jw_cd cd_166 14 = some (.istore_n 3) by decide +kernel) rfl ?_
      refine jr_1 jm_166 (show jw_cd cd_166 15 = some (.aload_n 0) by decide +kernel) rfl ?_
      refine jr_1 jm_166 (show jw_cd cd_166 16 = some (.getfield 9) by decide +kernel) (js_getf hA (jbg (by omega)) (show jw_fld 8 9 5 = some 0 by decide +kernel) rfl) ?_
      refine jr_1 jm_166 (show jw_cd cd_166 19 = some (.iconst 5) by decide +kernel) rfl ?_
      refine jr_1 jm_166 (show jw_cd cd_166 20 = some (.if_icmp .ne 24) by decide +kernel) (mb_f (q := .ne) (a := i.1) (b := 5) (by show ¬ (¬ (i.1 = 5)); omega) ⟨by omega, by omega⟩ ⟨by omega, by omega⟩ (by decide)) ?_
      refine jr_1 jm_166 (show jw_cd cd_166 23 = some (.iload_n 3) by decide +kernel) rfl ?_
      refine jr_1 jm_166 (show jw_cd cd_166 24 = some (.ifCond .lt 20) by decide +kernel) (mz_f (q := .lt) (a := x) (by show ¬ (x < 0); omega) ⟨by omega, by omega⟩ (by decide)) ?_
      refine jr_1 jm_166 (show jw_cd cd_166 27 = some (.iload_n 3) by decide +kernel) rfl ?_
      refine jr_1 jm_166 (show jw_cd cd_166 28 = some (.aload_n 0) by decide +kernel) rfl ?_
      refine jr_1 jm_166 (show jw_cd cd_166 29 = some (.getfield 29) by decide +kernel) (js_getf hA (jbg (by omega)) (show jw_fld 8 29 5 = some 5 by decide +kernel) rfl) ?_
      refine jr_1 jm_166 (show jw_cd cd_166 32 = some (.if_icmp .ge 12) by decide +kernel) (mb_t (q := .ge) (a := x) (b := ((fsz F : Nat) : Int)) (t := 44) (by show ((fsz F : Nat) : Int) ≤ x; omega) ⟨by omega, by omega⟩ ⟨by omega, by omega⟩ (by decide) (by decide)) ?_
      refine jr_1 jm_166 (show jw_cd cd_166 44 = some (.aload_n 2) by decide +kernel) rfl ?_
      exact jr_v jm_166 (show jw_cd cd_166 45 = some (.areturn) by decide +kernel) rfl
  · rw [if_pos (by omega)]
    refine ⟨fun y hy => ?_, fun z => ?_⟩
    · obtain ⟨b, hb, hb2⟩ := vF_nth F _ f g 0 _ y hF hy
      rw [Nat.zero_add] at hb
      refine ⟨b, ?_, hb2⟩
      rw [ek] at hhi hlo hb
      by_cases hx0 : x < 0 <;> simp only [hx0, if_true, if_false] at hlo hhi hb
      · refine jr_1 jm_166 (show jw_cd cd_166 0 = some (.iload_n 1) by decide +kernel) rfl ?_
        refine jr_1 jm_166 (show jw_cd cd_166 1 = some (.ifCond .ge 12) by decide +kernel) (mz_f (q := .ge) (a := x) (by show ¬ (0 ≤ x); omega) ⟨by omega, by omega⟩ (by decide)) ?_
        refine jr_1 jm_166 (show jw_cd cd_166 4 = some (.iload_n 1) by decide +kernel) rfl ?_
        refine jr_1 jm_166 (show jw_cd cd_166 5 = some (.aload_n 0) by decide +kernel) rfl ?_
        refine jr_1 jm_166 (show jw_cd cd_166 6 = some (.getfield 29) by decide +kernel) (js_getf hA (jbg (by omega)) (show jw_fld 8 29 5 = some 5 by decide +kernel) rfl) ?_
        refine jr_1 jm_166 (show jw_cd cd_166 9 = some (.iadd) by decide +kernel) (mt_add (c := x + (((fsz F : Nat) : Int))) rfl) ?_
        refine jr_1 jm_166 (show jw_cd cd_166 10 = some (.goto 4) by decide +kernel) (ju_go (t := 14) (by decide)) ?_
        refine jr_1 jm_166 (F2 := (15, [some (.ref a), some (.int (Int32.ofInt (x))), some (.ref o), some (.int (Int32.ofInt (x + (((fsz F : Nat) : Int)))))], [], (cl_mk h κ))) (show jw_cd cd_166 14 = some (.istore_n 3) by decide +kernel) rfl ?_
        refine jr_1 jm_166 (show jw_cd cd_166 15 = some (.aload_n 0) by decide +kernel) rfl ?_
        refine jr_1 jm_166 (show jw_cd cd_166 16 = some (.getfield 9) by decide +kernel) (js_getf hA (jbg (by omega)) (show jw_fld 8 9 5 = some 0 by decide +kernel) rfl) ?_
        refine jr_1 jm_166 (show jw_cd cd_166 19 = some (.iconst 5) by decide +kernel) rfl ?_
        refine jr_1 jm_166 (show jw_cd cd_166 20 = some (.if_icmp .ne 24) by decide +kernel) (mb_f (q := .ne) (a := i.1) (b := 5) (by show ¬ (¬ (i.1 = 5)); omega) ⟨by omega, by omega⟩ ⟨by omega, by omega⟩ (by decide)) ?_
        refine jr_1 jm_166 (show jw_cd cd_166 23 = some (.iload_n 3) by decide +kernel) rfl ?_
        refine jr_1 jm_166 (show jw_cd cd_166 24 = some (.ifCond .lt 20) by decide +kernel) (mz_f (q := .lt) (a := x + (((fsz F : Nat) : Int))) (by show ¬ (x + (((fsz F : Nat) : Int)) < 0); omega) ⟨by omega, by omega⟩ (by decide)) ?_
        refine jr_1 jm_166 (show jw_cd cd_166 27 = some (.iload_n 3) by decide +kernel) rfl ?_
        refine jr_1 jm_166 (show jw_cd cd_166 28 = some (.aload_n 0) by decide +kernel) rfl ?_
        refine jr_1 jm_166 (show jw_cd cd_166 29 = some (.getfield 29) by decide +kernel) (js_getf hA (jbg (by omega)) (show jw_fld 8 29 5 = some 5 by decide +kernel) rfl) ?_
        refine jr_1 jm_166 (show jw_cd cd_166 32 = some (.if_icmp .ge 12) by decide +kernel) (mb_f (q := .ge) (a := x + (((fsz F : Nat) : Int))) (b := ((fsz F : Nat) : Int)) (by show ¬ (((fsz F : Nat) : Int) ≤ x + (((fsz F : Nat) : Int))); omega) ⟨by omega, by omega⟩ ⟨by omega, by omega⟩ (by decide)) ?_
        refine jr_1 jm_166 (show jw_cd cd_166 35 = some (.aload_n 0) by decide +kernel) rfl ?_
        refine jr_1 jm_166 (show jw_cd cd_166 36 = some (.getfield 26) by decide +kernel) (js_getf hA (jbg (by omega)) (show jw_fld 8 26 5 = some 4 by decide +kernel) rfl) ?_
        refine jr_1 jm_166 (show jw_cd cd_166 39 = some (.iload_n 3) by decide +kernel) rfl ?_
        refine jr_1 jm_166 (show jw_cd cd_166 40 = some (.aaload) by decide +kernel) (cal_a (e := .ref b) (js_arr hI (jbg (by omega))) (Or.inl rfl) (by omega) (by omega) (by omega) hb) ?_
        refine jr_1 jm_166 (show jw_cd cd_166 41 = some (.goto 4) by decide +kernel) (ju_go (t := 45) (by decide)) ?_
        exact jr_v jm_166 (show jw_cd cd_166 45 = some (.areturn) by decide +kernel) rfl
      · refine jr_1 jm_166 (show jw_cd cd_166 0 = some (.iload_n 1) by decide +kernel) rfl ?_
        refine jr_1 jm_166 (show jw_cd cd_166 1 = some (.ifCond .ge 12) by decide +kernel) (mz_t (q := .ge) (a := x) (t := 13) (by show 0 ≤ x; omega) ⟨by omega, by omega⟩ (by decide) (by decide)) ?_
        refine jr_1 jm_166 (show jw_cd cd_166 13 = some (.iload_n 1) by decide +kernel) rfl ?_
        refine jr_1 jm_166 (F2 := (15, [some (.ref a), some (.int (Int32.ofInt (x))), some (.ref o), some (.int (Int32.ofInt (x)))], [], (cl_mk h κ))) (show jw_cd cd_166 14 = some (.istore_n 3) by decide +kernel) rfl ?_
        refine jr_1 jm_166 (show jw_cd cd_166 15 = some (.aload_n 0) by decide +kernel) rfl ?_
        refine jr_1 jm_166 (show jw_cd cd_166 16 = some (.getfield 9) by decide +kernel) (js_getf hA (jbg (by omega)) (show jw_fld 8 9 5 = some 0 by decide +kernel) rfl) ?_
        refine jr_1 jm_166 (show jw_cd cd_166 19 = some (.iconst 5) by decide +kernel) rfl ?_
        refine jr_1 jm_166 (show jw_cd cd_166 20 = some (.if_icmp .ne 24) by decide +kernel) (mb_f (q := .ne) (a := i.1) (b := 5) (by show ¬ (¬ (i.1 = 5)); omega) ⟨by omega, by omega⟩ ⟨by omega, by omega⟩ (by decide)) ?_
        refine jr_1 jm_166 (show jw_cd cd_166 23 = some (.iload_n 3) by decide +kernel) rfl ?_
        refine jr_1 jm_166 (show jw_cd cd_166 24 = some (.ifCond .lt 20) by decide +kernel) (mz_f (q := .lt) (a := x) (by show ¬ (x < 0); omega) ⟨by omega, by omega⟩ (by decide)) ?_
        refine jr_1 jm_166 (show jw_cd cd_166 27 = some (.iload_n 3) by decide +kernel) rfl ?_
        refine jr_1 jm_166 (show jw_cd cd_166 28 = some (.aload_n 0) by decide +kernel) rfl ?_
        refine jr_1 jm_166 (show jw_cd cd_166 29 = some (.getfield 29) by decide +kernel) (js_getf hA (jbg (by omega)) (show jw_fld 8 29 5 = some 5 by decide +kernel) rfl) ?_
        refine jr_1 jm_166 (show jw_cd cd_166 32 = some (.if_icmp .ge 12) by decide +kernel) (mb_f (q := .ge) (a := x) (b := ((fsz F : Nat) : Int)) (by show ¬ (((fsz F : Nat) : Int) ≤ x); omega) ⟨by omega, by omega⟩ ⟨by omega, by omega⟩ (by decide)) ?_
        refine jr_1 jm_166 (show jw_cd cd_166 35 = some (.aload_n 0) by decide +kernel) rfl ?_
        refine jr_1 jm_166 (show jw_cd cd_166 36 = some (.getfield 26) by decide +kernel) (js_getf hA (jbg (by omega)) (show jw_fld 8 26 5 = some 4 by decide +kernel) rfl) ?_
        refine jr_1 jm_166 (show jw_cd cd_166 39 = some (.iload_n 3) by decide +kernel) rfl ?_
        refine jr_1 jm_166 (show jw_cd cd_166 40 = some (.aaload) by decide +kernel) (cal_a (e := .ref b) (js_arr hI (jbg (by omega))) (Or.inl rfl) (by omega) (by omega) (by omega) hb) ?_
        refine jr_1 jm_166 (show jw_cd cd_166 41 = some (.goto 4) by decide +kernel) (ju_go (t := 45) (by decide)) ?_
        exact jr_v jm_166 (show jw_cd cd_166 45 = some (.areturn) by decide +kernel) rfl
    · rw [List.getElem?_eq_none_iff, sib_sz] at z
      omega
theorem jc_true {β : Bool} {d : Nat} {h : jx_H} {κ : mS} (hl : 50 ≤ h.length) {X : Nat → Prop} {a : Nat} {i : tI} {F : FT} (hv : vO h κ X a i F) (hi : iok i) (hcn : cnI i F) : jx_r (jz β) jw_M (d + 3) 172 (0, [some (.ref a)], [], (cl_mk h κ)) (cl_mk h (κ), .inl (some (.int (Int32.ofInt (if truS (some (i, F)) = true then 1 else 0))))) := by
  obtain ⟨l0, t, ka, ia, kc, ic, f, g, ⟨l1, l2⟩, hA, hS, hK, hI, ⟨s1, s2⟩, or, hF⟩ := id hv
  have i1 := hi.1
  have i2 := hi.2.1
  have ht7 := hi.2.2.2.1.1
  have hts : truS (some (i, F)) = decide (¬ i.1 = 0 ∧ ¬ i.1 = 1 ∧ (i.1 < 4 ∨ (i.1 = 4 ∧ ¬ i.2.2.1 = []) ∨ (4 < i.1 ∧ 0 < fsz F))) := rfl
  rw [hts]
  by_cases h2 : i.1 = 2
  · rw [if_pos (decide_eq_true (by omega))]
    refine jr_1 jm_172 (show jw_cd cd_172 0 = some (.aload_n 0) by decide +kernel) rfl ?_
    refine jr_1 jm_172 (show jw_cd cd_172 1 = some (.getfield 9) by decide +kernel) (js_getf hA (jbg (by omega)) (show jw_fld 8 9 5 = some 0 by decide +kernel) rfl) ?_
    refine jr_1 jm_172 (show jw_cd cd_172 4 = some (.iconst 2) by decide +kernel) rfl ?_
    refine jr_1 jm_172 (show jw_cd cd_172 5 = some (.if_icmp .eq 18) by decide +kernel) (mb_t (q := .eq) (a := i.1) (b := 2) (t := 23) (by show i.1 = 2; omega) ⟨by omega, by omega⟩ ⟨by omega, by omega⟩ (by decide) (by decide)) ?_
    refine jr_1 jm_172 (show jw_cd cd_172 23 = some (.iconst 1) by decide +kernel) rfl ?_
    refine jr_1 jm_172 (show jw_cd cd_172 24 = some (.goto 4) by decide +kernel) (ju_go (t := 28) (by decide)) ?_
    exact jr_v jm_172 (show jw_cd cd_172 28 = some (.ireturn) by decide +kernel) rfl
  by_cases h3 : i.1 = 3
  · rw [if_pos (decide_eq_true (by omega))]
    refine jr_1 jm_172 (show jw_cd cd_172 0 = some (.aload_n 0) by decide +kernel) rfl ?_
    refine jr_1 jm_172 (show jw_cd cd_172 1 = some (.getfield 9) by decide +kernel) (js_getf hA (jbg (by omega)) (show jw_fld 8 9 5 = some 0 by decide +kernel) rfl) ?_
    refine jr_1 jm_172 (show jw_cd cd_172 4 = some (.iconst 2) by decide +kernel) rfl ?_
    refine jr_1 jm_172 (show jw_cd cd_172 5 = some (.if_icmp .eq 18) by decide +kernel) (mb_f (q := .eq) (a := i.1) (b := 2) (by show ¬ (i.1 = 2); omega) ⟨by omega, by omega⟩ ⟨by omega, by omega⟩ (by decide)) ?_
    refine jr_1 jm_172 (show jw_cd cd_172 8 = some (.aload_n 0) by decide +kernel) rfl ?_
    refine jr_1 jm_172 (show jw_cd cd_172 9 = some (.getfield 9) by decide +kernel) (js_getf hA (jbg (by omega)) (show jw_fld 8 9 5 = some 0 by decide +kernel) rfl) ?_
    refine jr_1 jm_172 (show jw_cd cd_172 12 = some (.iconst 3) by decide +kernel) rfl ?_
    refine jr_1 jm_172 (show jw_cd cd_172 13 = some (.if_icmp .eq 10) by decide +kernel) (mb_t (q := .eq) (a := i.1) (b := 3) (t := 23) (by show i.1 = 3; omega) ⟨by omega, by omega⟩ ⟨by omega, by omega⟩ (by decide) (by decide)) ?_
    refine jr_1 jm_172 (show jw_cd cd_172 23 = some (.iconst 1) by decide +kernel) rfl ?_
    refine jr_1 jm_172 (show jw_cd cd_172 24 = some (.goto 4) by decide +kernel) (ju_go (t := 28) (by decide)) ?_
    exact jr_v jm_172 (show jw_cd cd_172 28 = some (.ireturn) by decide +kernel) rfl
  by_cases h4 : i.1 = 4
  · by_cases he : i.2.2.1 = []
    · have hz : i.2.2.1.length = 0 := by rw [he]; rfl
      rw [if_neg (by rw [decide_eq_true_eq]; rintro ⟨-, -, z | ⟨-, z⟩ | z⟩; omega; exact z he; omega)]
      refine jr_1 jm_172 (show jw_cd cd_172 0 = some (.aload_n 0) by decide +kernel) rfl ?_
      refine jr_1 jm_172 (show jw_cd cd_172 1 = some (.getfield 9) by decide +kernel) (js_getf hA (jbg (by omega)) (show jw_fld 8 9 5 = some 0 by decide +kernel) rfl) ?_
      refine jr_1 jm_172 (show jw_cd cd_172 4 = some (.iconst 2) by decide +kernel) rfl ?_
      refine jr_1 jm_172 (show jw_cd cd_172 5 = some (.if_icmp .eq 18) by decide +kernel) (mb_f (q := .eq) (a := i.1) (b := 2) (by show ¬ (i.1 = 2); omega) ⟨by omega, by omega⟩ ⟨by omega, by omega⟩ (by decide)) ?_
      refine jr_1 jm_172 (show jw_cd cd_172 8 = some (.aload_n 0) by decide +kernel) rfl ?_
      refine jr_1 jm_172 (show jw_cd cd_172 9 = some (.getfield 9) by decide +kernel) (js_getf hA (jbg (by omega)) (show jw_fld 8 9 5 = some 0 by decide +kernel) rfl) ?_
      refine jr_1 jm_172 (show jw_cd cd_172 12 = some (.iconst 3) by decide +kernel) rfl ?_
      refine jr_1 jm_172 (show jw_cd cd_172 13 = some (.if_icmp .eq 10) by decide +kernel) (mb_f (q := .eq) (a := i.1) (b := 3) (by show ¬ (i.1 = 3); omega) ⟨by omega, by omega⟩ ⟨by omega, by omega⟩ (by decide)) ?_
      refine jr_1 jm_172 (show jw_cd cd_172 16 = some (.aload_n 0) by decide +kernel) rfl ?_
      refine jr_c jm_172 (show jw_cd cd_172 17 = some (.invokevirtual 65) by decide +kernel) (ccv (n := 0) (m2 := 108) (ci := 5) (a := a) (bs := []) (r := []) (js_cls hA (jbg (by omega))) (show jw_find jw_cvT 8 65 = some (0, [(5, 108)]) by decide +kernel) (by decide) rfl rfl rfl) jm_108 ⟨Nat.le_of_ble_eq_true rfl, by decide⟩ ((jc_ext hl hv hi).1 h4) ?_
      refine jr_1 jm_172 (show jw_cd cd_172 20 = some (.ifCond .le 7) by decide +kernel) (mz_t (q := .le) (a := ((i.2.2.1.length : Nat) : Int)) (t := 27) (by show ((i.2.2.1.length : Nat) : Int) ≤ 0; omega) ⟨by omega, by omega⟩ (by decide) (by decide)) ?_
      refine jr_1 jm_172 (show jw_cd cd_172 27 = some (.iconst 0) by decide +kernel) rfl ?_
      exact jr_v jm_172 (show jw_cd cd_172 28 = some (.ireturn) by decide +kernel) rfl
    · have hz : 0 < i.2.2.1.length := List.length_pos_iff.mpr he
      rw [if_pos (decide_eq_true ⟨by omega, by omega, Or.inr (Or.inl ⟨h4, he⟩)⟩)]
      refine jr_1 jm_172 (show jw_cd cd_172 0 = some (.aload_n 0) by decide +kernel) rfl ?_
      refine jr_1 jm_172 (show jw_cd cd_172 1 = some (.getfield 9) by decide +kernel) (js_getf hA (jbg (by omega)) (show jw_fld 8 9 5 = some 0 by decide +kernel) rfl) ?_
      refine jr_1 jm_172 (show jw_cd cd_172 4 = some (.iconst 2) by decide +kernel) rfl ?_
      refine jr_1 jm_172 (show jw_cd cd_172 5 = some (.if_icmp .eq 18) by decide +kernel) (mb_f (q := .eq) (a := i.1) (b := 2) (by show ¬ (i.1 = 2); omega) ⟨by omega, by omega⟩ ⟨by omega, by omega⟩ (by decide)) ?_
      refine jr_1 jm_172 (show jw_cd cd_172 8 = some (.aload_n 0) by decide +kernel) rfl ?_
      refine jr_1 jm_172 (show jw_cd cd_172 9 = some (.getfield 9) by decide +kernel) (js_getf hA (jbg (by omega)) (show jw_fld 8 9 5 = some 0 by decide +kernel) rfl) ?_
      refine jr_1 jm_172 (show jw_cd cd_172 12 = some (.iconst 3) by decide +kernel) rfl ?_
      refine jr_1 jm_172 (show jw_cd cd_172 13 = some (.if_icmp .eq 10) by decide +kernel) (mb_f (q := .eq) (a := i.1) (b := 3) (by show ¬ (i.1 = 3); omega) ⟨by omega, by omega⟩ ⟨by omega, by omega⟩ (by decide)) ?_
      refine jr_1 jm_172 (show jw_cd cd_172 16 = some (.aload_n 0) by decide +kernel) rfl ?_
      refine jr_c jm_172 (show jw_cd cd_172 17 = some (.invokevirtual 65) by decide +kernel) (ccv (n := 0) (m2 := 108) (ci := 5) (a := a) (bs := []) (r := []) (js_cls hA (jbg (by omega))) (show jw_find jw_cvT 8 65 = some (0, [(5, 108)]) by decide +kernel) (by decide) rfl rfl rfl) jm_108 ⟨Nat.le_of_ble_eq_true rfl, by decide⟩ ((jc_ext hl hv hi).1 h4) ?_
      refine jr_1 jm_172 (show jw_cd cd_172 20 = some (.ifCond .le 7) by decide +kernel) (mz_f (q := .le) (a := ((i.2.2.1.length : Nat) : Int)) (by show ¬ (((i.2.2.1.length : Nat) : Int) ≤ 0); omega) ⟨by omega, by omega⟩ (by decide)) ?_
      refine jr_1 jm_172 (show jw_cd cd_172 23 = some (.iconst 1) by decide +kernel) rfl ?_
      refine jr_1 jm_172 (show jw_cd cd_172 24 = some (.goto 4) by decide +kernel) (ju_go (t := 28) (by decide)) ?_
      exact jr_v jm_172 (show jw_cd cd_172 28 = some (.ireturn) by decide +kernel) rfl
  · by_cases hz : fsz F = 0
    · rw [if_neg (by rw [decide_eq_true_eq]; omega)]
      refine jr_1 jm_172 (show jw_cd cd_172 0 = some (.aload_n 0) by decide +kernel) rfl ?_
      refine jr_1 jm_172 (show jw_cd cd_172 1 = some (.getfield 9) by decide +kernel) (js_getf hA (jbg (by omega)) (show jw_fld 8 9 5 = some 0 by decide +kernel) rfl) ?_
      refine jr_1 jm_172 (show jw_cd cd_172 4 = some (.iconst 2) by decide +kernel) rfl ?_
      refine jr_1 jm_172 (show jw_cd cd_172 5 = some (.if_icmp .eq 18) by decide +kernel) (mb_f (q := .eq) (a := i.1) (b := 2) (by show ¬ (i.1 = 2); omega) ⟨by omega, by omega⟩ ⟨by omega, by omega⟩ (by decide)) ?_
      refine jr_1 jm_172 (show jw_cd cd_172 8 = some (.aload_n 0) by decide +kernel) rfl ?_
      refine jr_1 jm_172 (show jw_cd cd_172 9 = some (.getfield 9) by decide +kernel) (js_getf hA (jbg (by omega)) (show jw_fld 8 9 5 = some 0 by decide +kernel) rfl) ?_
      refine jr_1 jm_172 (show jw_cd cd_172 12 = some (.iconst 3) by decide +kernel) rfl ?_
      refine jr_1 jm_172 (show jw_cd cd_172 13 = some (.if_icmp .eq 10) by decide +kernel) (mb_f (q := .eq) (a := i.1) (b := 3) (by show ¬ (i.1 = 3); omega) ⟨by omega, by omega⟩ ⟨by omega, by omega⟩ (by decide)) ?_
      refine jr_1 jm_172 (show jw_cd cd_172 16 = some (.aload_n 0) by decide +kernel) rfl ?_
      refine jr_c jm_172 (show jw_cd cd_172 17 = some (.invokevirtual 65) by decide +kernel) (ccv (n := 0) (m2 := 108) (ci := 5) (a := a) (bs := []) (r := []) (js_cls hA (jbg (by omega))) (show jw_find jw_cvT 8 65 = some (0, [(5, 108)]) by decide +kernel) (by decide) rfl rfl rfl) jm_108 ⟨Nat.le_of_ble_eq_true rfl, by decide⟩ ((jc_ext hl hv hi).2 h4) ?_
      refine jr_1 jm_172 (show jw_cd cd_172 20 = some (.ifCond .le 7) by decide +kernel) (mz_t (q := .le) (a := ((fsz F : Nat) : Int)) (t := 27) (by show ((fsz F : Nat) : Int) ≤ 0; omega) ⟨by omega, by omega⟩ (by decide) (by decide)) ?_
      refine jr_1 jm_172 (show jw_cd cd_172 27 = some (.iconst 0) by decide +kernel) rfl ?_
      exact jr_v jm_172 (show jw_cd cd_172 28 = some (.ireturn) by decide +kernel) rfl
    · have h56 : 4 < i.1 := by
        by_cases hx : i.1 < 5
        · rw [hcn.2.2 hx] at hz
          exact absurd rfl hz
        · omega
      rw [if_pos (decide_eq_true ⟨by omega, by omega, Or.inr (Or.inr ⟨h56, by omega⟩)⟩)]
      refine jr_1 jm_172 (show jw_cd cd_172 0 = some (.aload_n 0) by decide +kernel) rfl ?_
      refine jr_1 jm_172 (show jw_cd cd_172 1 = some (.getfield 9) by decide +kernel) (js_getf hA (jbg (by omega)) (show jw_fld 8 9 5 = some 0 by decide +kernel) rfl) ?_
      refine jr_1 jm_172 (show jw_cd cd_172 4 = some (.iconst 2) by decide +kernel) rfl ?_
      refine jr_1 jm_172 (show jw_cd cd_172 5 = some (.if_icmp .eq 18) by decide +kernel) (mb_f (q := .eq) (a := i.1) (b := 2) (by show ¬ (i.1 = 2); omega) ⟨by omega, by omega⟩ ⟨by omega, by omega⟩ (by decide)) ?_
      refine jr_1 jm_172 (show jw_cd cd_172 8 = some (.aload_n 0) by decide +kernel) rfl ?_
      refine jr_1 jm_172 (show jw_cd cd_172 9 = some (.getfield 9) by decide +kernel) (js_getf hA (jbg (by omega)) (show jw_fld 8 9 5 = some 0 by decide +kernel) rfl) ?_
      refine jr_1 jm_172 (show jw_cd cd_172 12 = some (.iconst 3) by decide +kernel) rfl ?_
      refine jr_1 jm_172 (show jw_cd cd_172 13 = some (.if_icmp .eq 10) by decide +kernel) (mb_f (q := .eq) (a := i.1) (b := 3) (by show ¬ (i.1 = 3); omega) ⟨by omega, by omega⟩ ⟨by omega, by omega⟩ (by decide)) ?_
      refine jr_1 jm_172 (show jw_cd cd_172 16 = some (.aload_n 0) by decide +kernel) rfl ?_
      refine jr_c jm_172 (show jw_cd cd_172 17 = some (.invokevirtual 65) by decide +kernel) (ccv (n := 0) (m2 := 108) (ci := 5) (a := a) (bs := []) (r := []) (js_cls hA (jbg (by omega))) (show jw_find jw_cvT 8 65 = some (0, [(5, 108)]) by decide +kernel) (by decide) rfl rfl rfl) jm_108 ⟨Nat.le_of_ble_eq_true rfl, by decide⟩ ((jc_ext hl hv hi).2 h4) ?_
      refine jr_1 jm_172 (show jw_cd cd_172 20 = some (.ifCond .le 7) by decide +kernel) (mz_f (q := .le) (a := ((fsz F : Nat) : Int)) (by show ¬ (((fsz F : Nat) : Int) ≤ 0); omega) ⟨by omega, by omega⟩ (by decide)) ?_
      refine jr_1 jm_172 (show jw_cd cd_172 23 = some (.iconst 1) by decide +kernel) rfl ?_
      refine jr_1 jm_172 (show jw_cd cd_172 24 = some (.goto 4) by decide +kernel) (ju_go (t := 28) (by decide)) ?_
      exact jr_v jm_172 (show jw_cd cd_172 28 = some (.ireturn) by decide +kernel) rfl
def dv (x : Option vT) : vT := x.getD nulV
def vQ (h : jx_H) (X : Nat → Prop) (a : Nat) : Option vT → Prop
  | none => a = 7
  | some v => vR h X a v
theorem vQ_R {h : jx_H} {X : Nat → Prop} {a : Nat} : ∀ {x : Option vT}, vQ h X a x → vR h X a (dv x)
  | none, e => Or.inl ⟨e, rfl, rfl, rfl, rfl⟩
  | some v, e => e
theorem jc_sdP {β : Bool} {d : Nat} {h : jx_H} {κ : mS} (hl : 50 ≤ h.length) {X Y : Nat → Prop} {sd ra e : Nat} {g : Nat → Value} {ks : List (List Int)} (hsd : 50 ≤ sd ∧ sd < 4000000000) (hra : 50 ≤ ra ∧ ra < 4000000000) (oA : h[sd]? = some (.inr (15, [.null, .ref ra, .int (Int32.ofInt (((ks.length : Nat) : Int)))]))) (oR : h[ra]? = some (.inl (4, 3, g))) (h3 : ks.length ≤ 3) (hks : ksR h Y g ks) (htx : ∀ s ∈ ks, tx s) : ∀ (l : List (List Int)) (j c : Nat) (x : Option vT), l = ks.drop j → j ≤ ks.length → vQ h X c x → vokO x → ∃ c', jx_r (jz β) jw_M (d + 3) 171 (26, [some (.ref 10), some (.ref sd), some (.ref e), some (.ref c), some (.int (Int32.ofInt (((j : Nat) : Int))))], [], (cl_mk h κ)) (cl_mk h (κ), .inl (some (.ref (c')))) ∧ vQ h X c' (vpath l x)
  | [], j, c, x, hl2, hj, hc, hok => by
    have hjl : ks.length ≤ j := List.drop_eq_nil_iff.mp hl2.symm
    refine ⟨c, ?_, hc⟩
    refine jr_1 jm_171 (show jw_cd cd_171 26 = some (.iload 4) by decide +kernel) rfl ?_
    refine jr_1 jm_171 (show jw_cd cd_171 28 = some (.aload_n 1) by decide +kernel) rfl ?_
    refine jr_1 jm_171 (show jw_cd cd_171 29 = some (.getfield 159) by decide +kernel) (js_getf (cl_old hl ⟨by omega, oA⟩) (jbg (by omega)) (show jw_fld 9 159 15 = some 2 by decide +kernel) rfl) ?_
    refine jr_1 jm_171 (show jw_cd cd_171 32 = some (.if_icmp .ge 28) by decide +kernel) (mb_t (q := .ge) (a := ((j : Nat) : Int)) (b := ((ks.length : Nat) : Int)) (t := 60) (by show ((ks.length : Nat) : Int) ≤ ((j : Nat) : Int); omega) ⟨by omega, by omega⟩ ⟨by omega, by omega⟩ (by decide) (by decide)) ?_
    refine jr_1 jm_171 (show jw_cd cd_171 60 = some (.aload_n 3) by decide +kernel) rfl ?_
    exact jr_v jm_171 (show jw_cd cd_171 61 = some (.areturn) by decide +kernel) rfl
  | s :: l, j, c, x, hl2, hj, hc, hok => by
    have hjs : ks[j]? = some s := by rw [← List.head?_drop, ← hl2]; rfl
    have hjl := (List.getElem?_eq_some_iff.mp hjs).1
    have hl3 : l = ks.drop (j + 1) := by rw [← List.tail_drop, ← hl2]; rfl
    obtain ⟨kv, hgj, zk, kt, kka, kia, kkc, kic, kf, kg, zka, zkia, hkv, hkt, -⟩ := hks j s hjs
    have zk1 := zk.1
    have zk2 := zk.2.1
    have hkt : strR h Y kt s := hkt
    have hcO := vR_O (κ := κ) hl (vQ_R hc)
    have hstx := htx s (List.mem_of_getElem? hjs)
    have hwf : fwf (dv x).2 := by
      cases x with
      | none => exact trivial
      | some v => exact (hok v.1 v.2 rfl).2
    obtain ⟨r1, r2⟩ := jc_atR (β := β) (d := d) (o := 7) hl hcO hwf hkt hstx
    have evp : vpath (s :: l) x = vpath l (vget s (dv x).1 (dv x).2) := by
      cases x with
      | none =>
        show none = vpath l none
        rw [vpath_none]
      | some v => rfl
    rw [evp]
    have nx : ∃ c', jx_r (jz β) jw_M (d + 2) 165 (0, [some (.ref c), some (.ref kt), some (.ref 7), none], [], (cl_mk h κ)) (cl_mk h (κ), .inl (some (.ref (c')))) ∧ vQ h X c' (vget s (dv x).1 (dv x).2) := by
      cases hg : vget s (dv x).1 (dv x).2 with
      | none => exact ⟨7, r2 hg, rfl⟩
      | some y =>
        obtain ⟨b, b1, b2⟩ := r1 y hg
        exact ⟨b, b1, Or.inr b2⟩
    obtain ⟨c', hr, hc'⟩ := nx
    have hok' : vokO (vget s (dv x).1 (dv x).2) := by
      intro i F hy
      unfold vget at hy
      by_cases h6 : (dv x).1.1 = 6
      · rw [if_pos h6] at hy
        exact fget_ok _ i F hwf hy
      · rw [if_neg h6] at hy
        cases hy
    obtain ⟨c2, q1, q2⟩ := jc_sdP hl hsd hra oA oR h3 hks htx l (j + 1) c' _ hl3 (by omega) hc' hok'
    refine ⟨c2, ?_, q2⟩
    refine jr_1 jm_171 (show jw_cd cd_171 26 = some (.iload 4) by decide +kernel) rfl ?_
    refine jr_1 jm_171 (show jw_cd cd_171 28 = some (.aload_n 1) by decide +kernel) rfl ?_
    refine jr_1 jm_171 (show jw_cd cd_171 29 = some (.getfield 159) by decide +kernel) (js_getf (cl_old hl ⟨by omega, oA⟩) (jbg (by omega)) (show jw_fld 9 159 15 = some 2 by decide +kernel) rfl) ?_
    refine jr_1 jm_171 (show jw_cd cd_171 32 = some (.if_icmp .ge 28) by decide +kernel) (mb_f (q := .ge) (a := ((j : Nat) : Int)) (b := ((ks.length : Nat) : Int)) (by show ¬ (((ks.length : Nat) : Int) ≤ ((j : Nat) : Int)); omega) ⟨by omega, by omega⟩ ⟨by omega, by omega⟩ (by decide)) ?_
    refine jr_1 jm_171 (show jw_cd cd_171 35 = some (.aload_n 3) by decide +kernel) rfl ?_
    refine jr_1 jm_171 (show jw_cd cd_171 36 = some (.aload_n 1) by decide +kernel) rfl ?_
    refine jr_1 jm_171 (show jw_cd cd_171 37 = some (.getfield 160) by decide +kernel) (js_getf (cl_old hl ⟨by omega, oA⟩) (jbg (by omega)) (show jw_fld 9 160 15 = some 1 by decide +kernel) rfl) ?_
    refine jr_1 jm_171 (show jw_cd cd_171 40 = some (.iload 4) by decide +kernel) rfl ?_
    refine jr_1 jm_171 (show jw_cd cd_171 42 = some (.aaload) by decide +kernel) (cal_a (e := .ref kv) (jx_ar_h (cl_old hl ⟨by omega, oR⟩) (jbg (by omega))) (Or.inl rfl) (by decide) (by omega) (by omega) (by rw [Int.toNat_natCast]; exact hgj)) ?_
    refine jr_1 jm_171 (show jw_cd cd_171 43 = some (.getfield 163) by decide +kernel) (js_getf (cl_old hl ⟨by omega, hkv⟩) (jbg (by omega)) (show jw_fld 9 163 5 = some 2 by decide +kernel) rfl) ?_
    refine jr_1 jm_171 (show jw_cd cd_171 46 = some (.aload_n 0) by decide +kernel) rfl ?_
    refine jr_1 jm_171 (show jw_cd cd_171 47 = some (.getfield 9) by decide +kernel) (cgr_10_0 (show jw_fld 9 9 6 = some 0 by decide +kernel)) ?_
    refine jr_c jm_171 (show jw_cd cd_171 50 = some (.invokevirtual 78) by decide +kernel) (ccv (n := 2) (m2 := 165) (ci := 5) (a := c) (bs := [.ref kt, .ref 7]) (r := []) (vO_cls hcO) (show jw_find jw_cvT 9 78 = some (2, [(5, 165)]) by decide +kernel) (by decide) rfl rfl rfl) jm_165 ⟨Nat.le_of_ble_eq_true rfl, by decide⟩ hr ?_
    refine jr_1 jm_171 (F2 := (54, [some (.ref 10), some (.ref sd), some (.ref e), some (.ref (c')), some (.int (Int32.ofInt (((j : Nat) : Int))))], [], (cl_mk h κ))) (show jw_cd cd_171 53 = some (.astore_n 3) by decide +kernel) rfl ?_
    refine jr_1 jm_171 (F2 := (57, [some (.ref 10), some (.ref sd), some (.ref e), some (.ref (c')), some (.int (Int32.ofInt (((j : Nat) : Int) + 1)))], [], (cl_mk h κ))) (show jw_cd cd_171 54 = some (.iinc 4 1) by decide +kernel) (mt_inc (a := ((j : Nat) : Int)) (c := ((j : Nat) : Int) + 1) rfl (by omega) rfl) ?_
    refine jr_1 jm_171 (show jw_cd cd_171 57 = some (.goto (-31)) by decide +kernel) (ju_go (t := 26) (by decide)) ?_
    exact q1
theorem jc_sdV {β : Bool} {d : Nat} {h : jx_H} {κ : mS} (hl : 50 ≤ h.length) {X Y : Nat → Prop} {sd e : Nat} {s : sD} {v : vT} (hsd : cdR h Y sd s) (hsO : sdO s) (hv : vR h X e v) (hok : vok v) : ∃ c, jx_r (jz β) jw_M (d + 3) 171 (0, [some (.ref 10), some (.ref sd), some (.ref e), none, none], [], (cl_mk h κ)) (cl_mk h (κ), .inl (some (.ref (c)))) ∧ (vQ h X c (sval s v) ∨ vQ h Y c (sval s v)) := by
  obtain ⟨z, ra, rn, g, said, zr, oA, oR, ho⟩ := hsd
  have z1 := z.1
  have z2 := z.2.1
  have zr1 := zr.1
  have zr2 := zr.2.1
  unfold sval
  rcases ho with ⟨a1, rfl, rfl, a4, a5⟩ | ⟨a1, b, rfl, a3⟩ | ⟨a1, b, rfl, a3⟩
  · rw [if_neg (by omega), if_neg (by omega)]
    obtain ⟨c, q1, q2⟩ := jc_sdP (β := β) (d := d) (κ := κ) (e := e) hl ⟨z1, z2⟩ ⟨zr1, zr2⟩ oA oR a4 a5 (hsO.2.1 a1).2 s.2.2.2 0 e (some v) rfl (Nat.zero_le _) hv (fun i F hh => by injection hh with hh; rw [hh] at hok; exact hok)
    refine ⟨c, ?_, Or.inl q2⟩
    refine jr_1 jm_171 (show jw_cd cd_171 0 = some (.aload_n 1) by decide +kernel) rfl ?_
    refine jr_1 jm_171 (show jw_cd cd_171 1 = some (.ifnonnull 8) by decide +kernel) (cnn_r (t := 9) (by decide) (by decide)) ?_
    refine jr_1 jm_171 (show jw_cd cd_171 9 = some (.aload_n 1) by decide +kernel) rfl ?_
    refine jr_1 jm_171 (show jw_cd cd_171 10 = some (.getfield 154) by decide +kernel) (js_getf (cl_old hl ⟨by omega, oA⟩) (jbg (by omega)) (show jw_fld 9 154 15 = some 0 by decide +kernel) rfl) ?_
    refine jr_1 jm_171 (show jw_cd cd_171 13 = some (.ifnull 8) by decide +kernel) (cnl_n (t := 21) (by decide) (by decide)) ?_
    refine jr_1 jm_171 (show jw_cd cd_171 21 = some (.aload_n 2) by decide +kernel) rfl ?_
    refine jr_1 jm_171 (F2 := (23, [some (.ref 10), some (.ref sd), some (.ref e), some (.ref e), none], [], (cl_mk h κ))) (show jw_cd cd_171 22 = some (.astore_n 3) by decide +kernel) rfl ?_
    refine jr_1 jm_171 (show jw_cd cd_171 23 = some (.iconst 0) by decide +kernel) rfl ?_
    refine jr_1 jm_171 (F2 := (26, [some (.ref 10), some (.ref sd), some (.ref e), some (.ref e), some (.int (Int32.ofInt (0)))], [], (cl_mk h κ))) (show jw_cd cd_171 24 = some (.istore 4) by decide +kernel) rfl ?_
    exact q1
  · rw [if_pos a1]
    refine ⟨b, ?_, Or.inr (Or.inr a3)⟩
    refine jr_1 jm_171 (show jw_cd cd_171 0 = some (.aload_n 1) by decide +kernel) rfl ?_
    refine jr_1 jm_171 (show jw_cd cd_171 1 = some (.ifnonnull 8) by decide +kernel) (cnn_r (t := 9) (by decide) (by decide)) ?_
    refine jr_1 jm_171 (show jw_cd cd_171 9 = some (.aload_n 1) by decide +kernel) rfl ?_
    refine jr_1 jm_171 (show jw_cd cd_171 10 = some (.getfield 154) by decide +kernel) (js_getf (cl_old hl ⟨by omega, oA⟩) (jbg (by omega)) (show jw_fld 9 154 15 = some 0 by decide +kernel) rfl) ?_
    refine jr_1 jm_171 (show jw_cd cd_171 13 = some (.ifnull 8) by decide +kernel) (cnl_r (by decide)) ?_
    refine jr_1 jm_171 (show jw_cd cd_171 16 = some (.aload_n 1) by decide +kernel) rfl ?_
    refine jr_1 jm_171 (show jw_cd cd_171 17 = some (.getfield 154) by decide +kernel) (js_getf (cl_old hl ⟨by omega, oA⟩) (jbg (by omega)) (show jw_fld 9 154 15 = some 0 by decide +kernel) rfl) ?_
    exact jr_v jm_171 (show jw_cd cd_171 20 = some (.areturn) by decide +kernel) rfl
  · rw [if_neg (by omega), if_pos a1]
    refine ⟨b, ?_, Or.inr (Or.inr a3)⟩
    refine jr_1 jm_171 (show jw_cd cd_171 0 = some (.aload_n 1) by decide +kernel) rfl ?_
    refine jr_1 jm_171 (show jw_cd cd_171 1 = some (.ifnonnull 8) by decide +kernel) (cnn_r (t := 9) (by decide) (by decide)) ?_
    refine jr_1 jm_171 (show jw_cd cd_171 9 = some (.aload_n 1) by decide +kernel) rfl ?_
    refine jr_1 jm_171 (show jw_cd cd_171 10 = some (.getfield 154) by decide +kernel) (js_getf (cl_old hl ⟨by omega, oA⟩) (jbg (by omega)) (show jw_fld 9 154 15 = some 0 by decide +kernel) rfl) ?_
    refine jr_1 jm_171 (show jw_cd cd_171 13 = some (.ifnull 8) by decide +kernel) (cnl_r (by decide)) ?_
    refine jr_1 jm_171 (show jw_cd cd_171 16 = some (.aload_n 1) by decide +kernel) rfl ?_
    refine jr_1 jm_171 (show jw_cd cd_171 17 = some (.getfield 154) by decide +kernel) (js_getf (cl_old hl ⟨by omega, oA⟩) (jbg (by omega)) (show jw_fld 9 154 15 = some 0 by decide +kernel) rfl) ?_
    exact jr_v jm_171 (show jw_cd cd_171 20 = some (.areturn) by decide +kernel) rfl
