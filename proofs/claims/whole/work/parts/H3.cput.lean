/-! ===== the class: put (printed by program: gen85.py) ===== -/
theorem jm_100 : jw_M 100 = some (8, 4, (none, false), jw_cd cd_100, fun _ _ => none) := rfl
theorem jc_putL {β : Bool} {d : Nat} {h : jx_H} {κ : mS} (hl : 50 ≤ h.length) {a ka ia kc ic t b sz : Nat} {f g : Nat → Value} {Y : Nat → Prop} {s : List Int} {i : tI} {c : FT} (ha : 15 ≤ a ∧ h[a]? = some (.inr (5, [.int (Int32.ofInt (6)), .int (Int32.ofInt (0)), .ref (jx_big + 9), .ref ka, .ref ia, .int (Int32.ofInt ((sz : Int)))]))) (hka : 15 ≤ ka ∧ h[ka]? = some (.inl (4, kc, g))) (hia : 15 ≤ ia ∧ h[ia]? = some (.inl (4, ic, f))) (hlt : a < 4000000000 ∧ ka < 4000000000 ∧ ia < 4000000000) (hb : sz ≤ kc ∧ kc ≤ 5000 ∧ sz ≤ ic ∧ ic ≤ 5000) (ht : strR h Y t s) (hs : tx s) (hv : vN h Y b i c) : ∀ (F : FT) (j : Nat), vF h Y F true f g j → fwf F → j + fsz F = sz → ((fget s F).isSome = true → ∃ m : Nat, j ≤ m ∧ m < sz ∧ jx_r (jz β) jw_M (d + 2) 100 (2, [some (.ref a), some (.ref t), some (.ref b), some (.int (Int32.ofInt ((j : Int))))], [], (cl_mk h κ)) (cl_mk (List.set h ia (.inl (4, ic, (updV f ((m : Int)).toNat (.ref b))))) (κ), .inl none) ∧ vF h Y (frep (wk i s) c F) true (updV f ((m : Int)).toNat (.ref b)) g j) ∧ (¬ (fget s F).isSome = true → ∀ res, jx_r (jz β) jw_M (d + 2) 100 (49, [some (.ref a), some (.ref t), some (.ref b), some (.int (Int32.ofInt ((sz : Int))))], [], (cl_mk h κ)) res → jx_r (jz β) jw_M (d + 2) 100 (2, [some (.ref a), some (.ref t), some (.ref b), some (.int (Int32.ofInt ((j : Int))))], [], (cl_mk h κ)) res)
  | .leaf, j, _, _, hj => by
    have hj : j + 0 = sz := hj
    refine ⟨fun q => Bool.noConfusion q, fun _ res hr => ?_⟩
    refine jr_1 jm_100 (show jw_cd cd_100 2 = some (.iload_n 3) by decide +kernel) rfl ?_
    refine jr_1 jm_100 (show jw_cd cd_100 3 = some (.aload_n 0) by decide +kernel) rfl ?_
    refine jr_1 jm_100 (show jw_cd cd_100 4 = some (.getfield 29) by decide +kernel) (js_getf (cl_old hl ha) (jbg (by omega)) (show jw_fld 8 29 5 = some 5 by decide +kernel) rfl) ?_
    refine jr_1 jm_100 (show jw_cd cd_100 7 = some (.if_icmp .ge 42) by decide +kernel) (mb_t (q := .ge) (a := (j : Int)) (b := (sz : Int)) (t := 49) (by show (sz : Int) ≤ (j : Int); omega) ⟨by omega, by omega⟩ ⟨by omega, by omega⟩ (by decide) (by decide)) ?_
    rw [show (sz : Int) = (j : Int) by omega] at hr
    exact hr
  | .inner s0 i0 u0 e n, j, hvF, hw, hj => by
    have hj : j + (fsz n + 1) = sz := hj
    obtain ⟨h1, h2, h3⟩ := hvF
    obtain ⟨kv, hgj, zk, kt, kka, kia, kkc, kic, kf, kg, zka, zkia, hkv, hkt, -⟩ := h2 rfl
    have zk1 := zk.1
    have zk2 := zk.2.1
    have k15 : 15 ≤ kv := Nat.le_trans (by decide) zk1
    have hkv : 15 ≤ kv ∧ h[kv]? = some (.inr (5, [.int (Int32.ofInt (4)), .int (Int32.ofInt (0)), .ref kt, .ref kka, .ref kia, .int (Int32.ofInt (0))])) := ⟨k15, hkv⟩
    have hkt : strR h Y kt i0.2.2.2 := hkt
    obtain ⟨uc, ua, kb, kf1, u0', u1, -⟩ := strR_q (β := β) (κ := κ) hl hkt
    have wi : tx i0.2.2.2 := hw.1.2.2.2.2
    have hq := jc_eq (β := β) (d := d) (κ := κ) hl hkt ht (fun c hc => by have := wi.2 c hc; omega) (fun c hc => by have := hs.2 c hc; omega) (by have := wi.1; omega) (by have := hs.1; omega)
    by_cases he : i0.2.2.2 = s
    · refine ⟨fun _ => ⟨j, Nat.le_refl _, by omega, ?_, ?_⟩, fun q => absurd (show (fget s (.inner s0 i0 u0 e n)).isSome = true by unfold fget; rw [if_pos he]; rfl) q⟩
      refine jr_1 jm_100 (show jw_cd cd_100 2 = some (.iload_n 3) by decide +kernel) rfl ?_
      refine jr_1 jm_100 (show jw_cd cd_100 3 = some (.aload_n 0) by decide +kernel) rfl ?_
      refine jr_1 jm_100 (show jw_cd cd_100 4 = some (.getfield 29) by decide +kernel) (js_getf (cl_old hl ha) (jbg (by omega)) (show jw_fld 8 29 5 = some 5 by decide +kernel) rfl) ?_
      refine jr_1 jm_100 (show jw_cd cd_100 7 = some (.if_icmp .ge 42) by decide +kernel) (mb_f (q := .ge) (a := (j : Int)) (b := (sz : Int)) (by show ¬ ((sz : Int) ≤ (j : Int)); omega) ⟨by omega, by omega⟩ ⟨by omega, by omega⟩ (by decide)) ?_
      refine jr_1 jm_100 (show jw_cd cd_100 10 = some (.iload_n 3) by decide +kernel) rfl ?_
      refine jr_1 jm_100 (show jw_cd cd_100 11 = some (.aload_n 0) by decide +kernel) rfl ?_
      refine jr_1 jm_100 (show jw_cd cd_100 12 = some (.getfield 22) by decide +kernel) (js_getf (cl_old hl ha) (jbg (by omega)) (show jw_fld 8 22 5 = some 3 by decide +kernel) rfl) ?_
      refine jr_1 jm_100 (show jw_cd cd_100 15 = some (.arraylength) by decide +kernel) (cln (jx_ar_h (cl_old hl hka) (jbg (by omega))) (by decide)) ?_
      refine jr_1 jm_100 (show jw_cd cd_100 16 = some (.if_icmp .ge 33) by decide +kernel) (mb_f (q := .ge) (a := (j : Int)) (b := ((kc : Nat) : Int)) (by show ¬ (((kc : Nat) : Int) ≤ (j : Int)); omega) ⟨by omega, by omega⟩ ⟨by omega, by omega⟩ (by decide)) ?_
      refine jr_1 jm_100 (show jw_cd cd_100 19 = some (.aload_n 0) by decide +kernel) rfl ?_
      refine jr_1 jm_100 (show jw_cd cd_100 20 = some (.getfield 22) by decide +kernel) (js_getf (cl_old hl ha) (jbg (by omega)) (show jw_fld 8 22 5 = some 3 by decide +kernel) rfl) ?_
      refine jr_1 jm_100 (show jw_cd cd_100 23 = some (.iload_n 3) by decide +kernel) rfl ?_
      refine jr_1 jm_100 (F2 := (25, [some (.ref a), some (.ref t), some (.ref b), some (.int (Int32.ofInt ((j : Int))))], [.ref kv], (cl_mk h κ))) (show jw_cd cd_100 24 = some (.aaload) by decide +kernel) (cal_a (jx_ar_h (cl_old hl hka) (jbg (by omega))) (Or.inl rfl) (by omega) (by omega) (by omega) (by rw [Int.toNat_natCast]; exact hgj)) ?_
      refine jr_1 jm_100 (show jw_cd cd_100 25 = some (.getfield 18) by decide +kernel) (js_getf (cl_old hl hkv) (jbg (by omega)) (show jw_fld 8 18 5 = some 2 by decide +kernel) rfl) ?_
      refine jr_1 jm_100 (show jw_cd cd_100 28 = some (.aload_n 1) by decide +kernel) rfl ?_
      refine jr_c jm_100 (show jw_cd cd_100 29 = some (.invokevirtual 45) by decide +kernel) (ccv (n := 1) (m2 := 101) (ci := 9) (a := kt) (bs := [.ref t]) (r := []) uc (show jw_find jw_cvT 8 45 = some (1, [(9, 101)]) by decide +kernel) (by decide) rfl rfl rfl) jm_101 ⟨Nat.le_of_ble_eq_true rfl, by decide⟩ (hq.1 he) ?_
      refine jr_1 jm_100 (show jw_cd cd_100 32 = some (.ifCond .eq 11) by decide +kernel) (mz_f (q := .eq) (a := 1) (by show ¬ (1 = 0); omega) ⟨by omega, by omega⟩ (by decide)) ?_
      refine jr_1 jm_100 (show jw_cd cd_100 35 = some (.aload_n 0) by decide +kernel) rfl ?_
      refine jr_1 jm_100 (show jw_cd cd_100 36 = some (.getfield 26) by decide +kernel) (js_getf (cl_old hl ha) (jbg (by omega)) (show jw_fld 8 26 5 = some 4 by decide +kernel) rfl) ?_
      refine jr_1 jm_100 (show jw_cd cd_100 39 = some (.iload_n 3) by decide +kernel) rfl ?_
      refine jr_1 jm_100 (show jw_cd cd_100 40 = some (.aload_n 2) by decide +kernel) rfl ?_
      refine jr_1 jm_100 (F2 := (42, [some (.ref a), some (.ref t), some (.ref b), some (.int (Int32.ofInt ((j : Int))))], [], (cl_mk (List.set h ia (.inl (4, ic, updV f ((j : Int)).toNat (.ref b)))) κ))) (show jw_cd cd_100 41 = some (.aastore) by decide +kernel) (csa (cl_old hl hia) (jbg (by omega)) (vN_cls hl hv) (by omega) (by omega) (by omega) (cl_set (by omega) (by omega))) ?_
      exact jr_v jm_100 (show jw_cd cd_100 42 = some (.return_) by decide +kernel) rfl
      · unfold frep
        rw [if_pos (show i0.2.2.2 = (wk i s).2.2.2 from he)]
        rw [Int.toNat_natCast]
        refine ⟨⟨b, if_pos rfl, hv⟩, fun _ => ⟨kv, hgj, ?_⟩, vF_upd n true f g _ _ (j + 1) (fun k k1 k2 => ⟨if_neg (by omega), fun _ => rfl⟩) h3⟩
        obtain ⟨kv', hgj', h2'⟩ := h2 rfl
        have : kv' = kv := by rw [hgj] at hgj'; injection hgj' with q; exact q.symm
        subst this
        show vNd h Y kv' (4, 0, s, []) 0 (fun _ _ => True)
        rw [← he]
        exact h2'
    · obtain ⟨r1, r2⟩ := jc_putL hl ha hka hia hlt hb ht hs hv n (j + 1) h3 hw.2.2 (by omega)
      have ef : fget s (.inner s0 i0 u0 e n) = fget s n := by
        show (if i0.2.2.2 = s then some (i0, e) else fget s n) = fget s n
        rw [if_neg he]
      have en : ∀ res, jx_r (jz β) jw_M (d + 2) 100 (2, [some (.ref a), some (.ref t), some (.ref b), some (.int (Int32.ofInt (((j + 1 : Nat) : Int))))], [], (cl_mk h κ)) res → jx_r (jz β) jw_M (d + 2) 100 (2, [some (.ref a), some (.ref t), some (.ref b), some (.int (Int32.ofInt ((j : Int))))], [], (cl_mk h κ)) res := by
        intro res hr
        refine jr_1 jm_100 (show jw_cd cd_100 2 = some (.iload_n 3) by decide +kernel) rfl ?_
        refine jr_1 jm_100 (show jw_cd cd_100 3 = some (.aload_n 0) by decide +kernel) rfl ?_
        refine jr_1 jm_100 (show jw_cd cd_100 4 = some (.getfield 29) by decide +kernel) (js_getf (cl_old hl ha) (jbg (by omega)) (show jw_fld 8 29 5 = some 5 by decide +kernel) rfl) ?_
        refine jr_1 jm_100 (show jw_cd cd_100 7 = some (.if_icmp .ge 42) by decide +kernel) (mb_f (q := .ge) (a := (j : Int)) (b := (sz : Int)) (by show ¬ ((sz : Int) ≤ (j : Int)); omega) ⟨by omega, by omega⟩ ⟨by omega, by omega⟩ (by decide)) ?_
        refine jr_1 jm_100 (show jw_cd cd_100 10 = some (.iload_n 3) by decide +kernel) rfl ?_
        refine jr_1 jm_100 (show jw_cd cd_100 11 = some (.aload_n 0) by decide +kernel) rfl ?_
        refine jr_1 jm_100 (show jw_cd cd_100 12 = some (.getfield 22) by decide +kernel) (js_getf (cl_old hl ha) (jbg (by omega)) (show jw_fld 8 22 5 = some 3 by decide +kernel) rfl) ?_
        refine jr_1 jm_100 (show jw_cd cd_100 15 = some (.arraylength) by decide +kernel) (cln (jx_ar_h (cl_old hl hka) (jbg (by omega))) (by decide)) ?_
        refine jr_1 jm_100 (show jw_cd cd_100 16 = some (.if_icmp .ge 33) by decide +kernel) (mb_f (q := .ge) (a := (j : Int)) (b := ((kc : Nat) : Int)) (by show ¬ (((kc : Nat) : Int) ≤ (j : Int)); omega) ⟨by omega, by omega⟩ ⟨by omega, by omega⟩ (by decide)) ?_
        refine jr_1 jm_100 (show jw_cd cd_100 19 = some (.aload_n 0) by decide +kernel) rfl ?_
        refine jr_1 jm_100 (show jw_cd cd_100 20 = some (.getfield 22) by decide +kernel) (js_getf (cl_old hl ha) (jbg (by omega)) (show jw_fld 8 22 5 = some 3 by decide +kernel) rfl) ?_
        refine jr_1 jm_100 (show jw_cd cd_100 23 = some (.iload_n 3) by decide +kernel) rfl ?_
        refine jr_1 jm_100 (F2 := (25, [some (.ref a), some (.ref t), some (.ref b), some (.int (Int32.ofInt ((j : Int))))], [.ref kv], (cl_mk h κ))) (show jw_cd cd_100 24 = some (.aaload) by decide +kernel) (cal_a (jx_ar_h (cl_old hl hka) (jbg (by omega))) (Or.inl rfl) (by omega) (by omega) (by omega) (by rw [Int.toNat_natCast]; exact hgj)) ?_
        refine jr_1 jm_100 (show jw_cd cd_100 25 = some (.getfield 18) by decide +kernel) (js_getf (cl_old hl hkv) (jbg (by omega)) (show jw_fld 8 18 5 = some 2 by decide +kernel) rfl) ?_
        refine jr_1 jm_100 (show jw_cd cd_100 28 = some (.aload_n 1) by decide +kernel) rfl ?_
        refine jr_c jm_100 (show jw_cd cd_100 29 = some (.invokevirtual 45) by decide +kernel) (ccv (n := 1) (m2 := 101) (ci := 9) (a := kt) (bs := [.ref t]) (r := []) uc (show jw_find jw_cvT 8 45 = some (1, [(9, 101)]) by decide +kernel) (by decide) rfl rfl rfl) jm_101 ⟨Nat.le_of_ble_eq_true rfl, by decide⟩ (hq.2 he) ?_
        refine jr_1 jm_100 (show jw_cd cd_100 32 = some (.ifCond .eq 11) by decide +kernel) (mz_t (q := .eq) (a := 0) (t := 43) (by show 0 = 0; omega) ⟨by omega, by omega⟩ (by decide) (by decide)) ?_
        refine jr_1 jm_100 (F2 := (46, [some (.ref a), some (.ref t), some (.ref b), some (.int (Int32.ofInt ((j : Int) + 1)))], [], (cl_mk h κ))) (show jw_cd cd_100 43 = some (.iinc 3 1) by decide +kernel) (mt_inc (a := (j : Int)) (c := (j : Int) + 1) rfl (by omega) rfl) ?_
        refine jr_1 jm_100 (show jw_cd cd_100 46 = some (.goto (-44)) by decide +kernel) (ju_go (t := 2) (by decide)) ?_
        exact hr
      rw [ef]
      refine ⟨fun q => ?_, fun q res hr => en res (r2 q res hr)⟩
      obtain ⟨m, m1, m2, m3, m4⟩ := r1 q
      refine ⟨m, by omega, m2, en _ m3, ?_⟩
      unfold frep
      rw [if_neg (show ¬ i0.2.2.2 = (wk i s).2.2.2 from he)]
      refine ⟨?_, h2, m4⟩
      obtain ⟨a1, a2, a3⟩ := h1
      exact ⟨a1, (if_neg (by omega)).trans a2, a3⟩
theorem jc_put72 {β : Bool} {d : Nat} {h : jx_H} {κ : mS} (hl : 50 ≤ h.length) {N : Nat} (hN : h.length = N) (hb32 : N < 3000000000) {a ka ia kc t b sz : Nat} {g : Nat → Value} (ha : 15 ≤ a ∧ h[a]? = some (.inr (5, [.int (Int32.ofInt (6)), .int (Int32.ofInt (0)), .ref (jx_big + 9), .ref ka, .ref ia, .int (Int32.ofInt ((sz : Int)))]))) (hka : 15 ≤ ka ∧ h[ka]? = some (.inl (4, kc, g))) (hlt : a < 4000000000 ∧ ka < 4000000000 ∧ ia < 4000000000) (hb : sz < kc ∧ kc ≤ 5000) (hne : ¬ a = ka) {h3 : jx_H} (hadd : jx_r (jz β) jw_M (d + 1) 94 (0, [some (.ref a), some (.ref b)], [], (cl_mk (List.set (h ++ [.inr (5, [.int (Int32.ofInt (4)), .int (Int32.ofInt (0)), .ref t, .ref (N + 1), .ref (N + 2), .int (Int32.ofInt (0))]), .inl (4, 0, fun _ => .null), .inl (4, 0, fun _ => .null)]) ka (.inl (4, kc, updV g ((sz : Int)).toNat (.ref N)))) κ)) (cl_mk h3 (κ), .inl none)) : jx_r (jz β) jw_M (d + 2) 100 (72, [some (.ref a), some (.ref t), some (.ref b), some (.int (Int32.ofInt ((sz : Int))))], [], (cl_mk h κ)) (cl_mk h3 (κ), .inl none) := by
  have hla := (List.getElem?_eq_some_iff.mp ha.2).1
  have hlk := (List.getElem?_eq_some_iff.mp hka.2).1
  have hcl : jx_cls (jz β) (cl_mk (h ++ [.inr (5, [.int (Int32.ofInt (4)), .int (Int32.ofInt (0)), .ref t, .ref (N + 1), .ref (N + 2), .int (Int32.ofInt (0))]), .inl (4, 0, fun _ => .null), .inl (4, 0, fun _ => .null)]) κ) N = some 5 := js_cls (ap_get hl hN 0 rfl) (jbg (by omega))
  have ha2 : (cl_mk (List.set (h ++ [.inr (5, [.int (Int32.ofInt (4)), .int (Int32.ofInt (0)), .ref t, .ref (N + 1), .ref (N + 2), .int (Int32.ofInt (0))]), .inl (4, 0, fun _ => .null), .inl (4, 0, fun _ => .null)]) ka (.inl (4, kc, updV g ((sz : Int)).toNat (.ref N)))) κ)[a]? = some (.inr (5, [.int (Int32.ofInt (6)), .int (Int32.ofInt (0)), .ref (jx_big + 9), .ref ka, .ref ia, .int (Int32.ofInt ((sz : Int)))])) := by
    refine cl_old (by rw [List.length_set, List.length_append]; omega) ⟨ha.1, ?_⟩
    rw [js_set_ne (fun e => hne e.symm), List.getElem?_append_left hla]
    exact ha.2
  refine jr_1 jm_100 (show jw_cd cd_100 72 = some (.aload_n 0) by decide +kernel) rfl ?_
  refine jr_1 jm_100 (show jw_cd cd_100 73 = some (.getfield 22) by decide +kernel) (js_getf (cl_old hl ha) (jbg (by omega)) (show jw_fld 8 22 5 = some 3 by decide +kernel) rfl) ?_
  refine jr_1 jm_100 (show jw_cd cd_100 76 = some (.aload_n 0) by decide +kernel) rfl ?_
  refine jr_1 jm_100 (show jw_cd cd_100 77 = some (.getfield 29) by decide +kernel) (js_getf (cl_old hl ha) (jbg (by omega)) (show jw_fld 8 29 5 = some 5 by decide +kernel) rfl) ?_
  refine jr_1 jm_100 (show jw_cd cd_100 80 = some (.aload_n 1) by decide +kernel) rfl ?_
  refine jr_c jm_100 (show jw_cd cd_100 81 = some (.invokestatic 51) by decide +kernel) (mc_s (n := 1) (m2 := 91) (bs := [.ref t]) (r := [.int (Int32.ofInt ((sz : Int))), .ref ka]) (by decide) (show jw_find jw_csT 8 51 = some (91, 1) by decide +kernel) rfl rfl rfl) jm_91 ⟨Nat.le_of_ble_eq_true rfl, by decide⟩ (jc_ofT hl hN hb32) ?_
  refine jr_1 jm_100 (F2 := (85, [some (.ref a), some (.ref t), some (.ref b), some (.int (Int32.ofInt ((sz : Int))))], [], (cl_mk (List.set (h ++ [.inr (5, [.int (Int32.ofInt (4)), .int (Int32.ofInt (0)), .ref t, .ref (N + 1), .ref (N + 2), .int (Int32.ofInt (0))]), .inl (4, 0, fun _ => .null), .inl (4, 0, fun _ => .null)]) ka (.inl (4, kc, updV g ((sz : Int)).toNat (.ref N)))) κ))) (show jw_cd cd_100 84 = some (.aastore) by decide +kernel) (csa (ap_old hl hka) (jbg (by omega)) hcl (by omega) (by omega) (by omega) (cl_set (by rw [List.length_append]; omega) (by omega))) ?_
  refine jr_1 jm_100 (show jw_cd cd_100 85 = some (.aload_n 0) by decide +kernel) rfl ?_
  refine jr_1 jm_100 (show jw_cd cd_100 86 = some (.aload_n 2) by decide +kernel) rfl ?_
  refine jr_c jm_100 (show jw_cd cd_100 87 = some (.invokevirtual 41) by decide +kernel) (ccv (n := 1) (m2 := 94) (ci := 5) (a := a) (bs := [.ref b]) (r := []) (js_cls ha2 (jbg (by omega))) (show jw_find jw_cvT 8 41 = some (1, [(5, 94)]) by decide +kernel) (by decide) rfl rfl rfl) jm_94 ⟨Nat.le_of_ble_eq_true rfl, by decide⟩ hadd ?_
  exact jr_v jm_100 (show jw_cd cd_100 90 = some (.return_) by decide +kernel) rfl
theorem jc_putN {β : Bool} {d : Nat} {h : jx_H} {κ : mS} (hl : 50 ≤ h.length) {N : Nat} (hN : h.length = N) (hb32 : N < 3000000000) {a ka ia kc t b sz : Nat} {g : Nat → Value} (ha : 15 ≤ a ∧ h[a]? = some (.inr (5, [.int (Int32.ofInt (6)), .int (Int32.ofInt (0)), .ref (jx_big + 9), .ref ka, .ref ia, .int (Int32.ofInt ((sz : Int)))]))) (hka : 15 ≤ ka ∧ h[ka]? = some (.inl (4, kc, g))) (hlt : a < 4000000000 ∧ ka < 4000000000 ∧ ia < 4000000000) (hb : sz < kc ∧ kc ≤ 5000) (hne : ¬ a = ka) {h3 : jx_H} (hadd : jx_r (jz β) jw_M (d + 1) 94 (0, [some (.ref a), some (.ref b)], [], (cl_mk (List.set (h ++ [.inr (5, [.int (Int32.ofInt (4)), .int (Int32.ofInt (0)), .ref t, .ref (N + 1), .ref (N + 2), .int (Int32.ofInt (0))]), .inl (4, 0, fun _ => .null), .inl (4, 0, fun _ => .null)]) ka (.inl (4, kc, updV g ((sz : Int)).toNat (.ref N)))) κ)) (cl_mk h3 (κ), .inl none)) : jx_r (jz β) jw_M (d + 2) 100 (49, [some (.ref a), some (.ref t), some (.ref b), some (.int (Int32.ofInt ((sz : Int))))], [], (cl_mk h κ)) (cl_mk h3 (κ), .inl none) := by
  refine jr_1 jm_100 (show jw_cd cd_100 49 = some (.aload_n 0) by decide +kernel) rfl ?_
  refine jr_1 jm_100 (show jw_cd cd_100 50 = some (.getfield 29) by decide +kernel) (js_getf (cl_old hl ha) (jbg (by omega)) (show jw_fld 8 29 5 = some 5 by decide +kernel) rfl) ?_
  refine jr_1 jm_100 (show jw_cd cd_100 53 = some (.aload_n 0) by decide +kernel) rfl ?_
  refine jr_1 jm_100 (show jw_cd cd_100 54 = some (.getfield 22) by decide +kernel) (js_getf (cl_old hl ha) (jbg (by omega)) (show jw_fld 8 22 5 = some 3 by decide +kernel) rfl) ?_
  refine jr_1 jm_100 (show jw_cd cd_100 57 = some (.arraylength) by decide +kernel) (cln (jx_ar_h (cl_old hl hka) (jbg (by omega))) (by decide)) ?_
  refine jr_1 jm_100 (show jw_cd cd_100 58 = some (.if_icmp .ne 14) by decide +kernel) (mb_t (q := .ne) (a := (sz : Int)) (b := ((kc : Nat) : Int)) (t := 72) (by show ¬ ((sz : Int) = ((kc : Nat) : Int)); omega) ⟨by omega, by omega⟩ ⟨by omega, by omega⟩ (by decide) (by decide)) ?_
  exact jc_put72 hl hN hb32 ha hka hlt hb hne hadd
theorem jc_putW {β : Bool} {d : Nat} {h : jx_H} {κ : mS} (hl : 50 ≤ h.length) {N : Nat} (hN : h.length = N) (hb32 : N < 2900000000) {a ka ia kc t b sz : Nat} {g : Nat → Value} (ha : 15 ≤ a ∧ h[a]? = some (.inr (5, [.int (Int32.ofInt (6)), .int (Int32.ofInt (0)), .ref (jx_big + 9), .ref ka, .ref ia, .int (Int32.ofInt ((sz : Int)))]))) (hka : 15 ≤ ka ∧ h[ka]? = some (.inl (4, kc, g))) (hlt : a < 4000000000 ∧ ka < 4000000000 ∧ ia < 4000000000) (hb : sz = kc ∧ kc ≤ 2000) (hne : ¬ a = ka) (hf : ∀ i, i < kc → ∃ b, g i = .ref b ∧ jx_cls (jz β) (cl_mk (h ++ [.inl (4, (2 * (kc : Int) + 2).toNat, fun _ => .null)]) κ) b = some 5) {h3 : jx_H} (hadd : jx_r (jz β) jw_M (d + 1) 94 (0, [some (.ref a), some (.ref b)], [], (cl_mk (List.set ((List.set (h ++ [.inl (4, (2 * (kc : Int) + 2).toNat, va_cpy g (fun _ => .null) (0 : Int).toNat (0 : Int).toNat ((kc : Int)).toNat)]) a (.inr (5, [.int (Int32.ofInt (6)), .int (Int32.ofInt (0)), .ref (jx_big + 9), .ref N, .ref ia, .int (Int32.ofInt ((sz : Int)))]))) ++ [.inr (5, [.int (Int32.ofInt (4)), .int (Int32.ofInt (0)), .ref t, .ref (N + 1 + 1), .ref (N + 1 + 2), .int (Int32.ofInt (0))]), .inl (4, 0, fun _ => .null), .inl (4, 0, fun _ => .null)]) N (.inl (4, (2 * (kc : Int) + 2).toNat, updV (va_cpy g (fun _ => .null) (0 : Int).toNat (0 : Int).toNat ((kc : Int)).toNat) ((sz : Int)).toNat (.ref (N + 1))))) κ)) (cl_mk h3 (κ), .inl none)) : jx_r (jz β) jw_M (d + 2) 100 (49, [some (.ref a), some (.ref t), some (.ref b), some (.int (Int32.ofInt ((sz : Int))))], [], (cl_mk h κ)) (cl_mk h3 (κ), .inl none) := by
  have hla := (List.getElem?_eq_some_iff.mp ha.2).1
  have hb32 : N < 3000000000 := by omega
  refine jr_1 jm_100 (show jw_cd cd_100 49 = some (.aload_n 0) by decide +kernel) rfl ?_
  refine jr_1 jm_100 (show jw_cd cd_100 50 = some (.getfield 29) by decide +kernel) (js_getf (cl_old hl ha) (jbg (by omega)) (show jw_fld 8 29 5 = some 5 by decide +kernel) rfl) ?_
  refine jr_1 jm_100 (show jw_cd cd_100 53 = some (.aload_n 0) by decide +kernel) rfl ?_
  refine jr_1 jm_100 (show jw_cd cd_100 54 = some (.getfield 22) by decide +kernel) (js_getf (cl_old hl ha) (jbg (by omega)) (show jw_fld 8 22 5 = some 3 by decide +kernel) rfl) ?_
  refine jr_1 jm_100 (show jw_cd cd_100 57 = some (.arraylength) by decide +kernel) (cln (jx_ar_h (cl_old hl hka) (jbg (by omega))) (by decide)) ?_
  refine jr_1 jm_100 (show jw_cd cd_100 58 = some (.if_icmp .ne 14) by decide +kernel) (mb_f (q := .ne) (a := (sz : Int)) (b := ((kc : Nat) : Int)) (by show ¬ (¬ ((sz : Int) = ((kc : Nat) : Int))); omega) ⟨by omega, by omega⟩ ⟨by omega, by omega⟩ (by decide)) ?_
  refine jr_1 jm_100 (show jw_cd cd_100 61 = some (.aload_n 0) by decide +kernel) rfl ?_
  refine jr_1 jm_100 (show jw_cd cd_100 62 = some (.aload_n 0) by decide +kernel) rfl ?_
  refine jr_1 jm_100 (show jw_cd cd_100 63 = some (.getfield 22) by decide +kernel) (js_getf (cl_old hl ha) (jbg (by omega)) (show jw_fld 8 22 5 = some 3 by decide +kernel) rfl) ?_
  refine jr_c jm_100 (show jw_cd cd_100 66 = some (.invokestatic 37) by decide +kernel) (mc_s (n := 1) (m2 := 95) (bs := [.ref ka]) (r := [.ref a]) (by decide) (show jw_find jw_csT 8 37 = some (95, 1) by decide +kernel) rfl rfl rfl) jm_95 ⟨Nat.le_of_ble_eq_true rfl, by decide⟩ (jc_wid hl hN hb32 hka (by omega) hf) ?_
  refine jr_1 jm_100 (F2 := (72, [some (.ref a), some (.ref t), some (.ref b), some (.int (Int32.ofInt ((sz : Int))))], [], (cl_mk (List.set (h ++ [.inl (4, (2 * (kc : Int) + 2).toNat, va_cpy g (fun _ => .null) (0 : Int).toNat (0 : Int).toNat ((kc : Int)).toNat)]) a (.inr (5, [.int (Int32.ofInt (6)), .int (Int32.ofInt (0)), .ref (jx_big + 9), .ref N, .ref ia, .int (Int32.ofInt ((sz : Int)))]))) κ))) (show jw_cd cd_100 69 = some (.putfield 22) by decide +kernel) (cpf (ap_old hl ha) (jbg (by omega)) (show jw_fld 8 22 5 = some 3 by decide +kernel) (show jw_ft 5 3 = some (.array (.object "PickDesk$Value")) from rfl) (show jw_fm 8 5 3 = some false by decide +kernel) rfl rfl (cl_set (by rw [List.length_append]; omega) (by omega))) ?_
  refine jc_put72 (N := N + 1) (by rw [List.length_set, List.length_append]; omega) (by rw [List.length_set, List.length_append]; show h.length + 1 = _; omega) (by omega) (ia := ia) (ka := N) (kc := (2 * (kc : Int) + 2).toNat) (g := va_cpy g (fun _ => .null) (0 : Int).toNat (0 : Int).toNat ((kc : Int)).toNat) ⟨ha.1, ?_⟩ ⟨by omega, ?_⟩ ⟨hlt.1, by omega, hlt.2.2⟩ (by omega) (by omega) hadd
  · exact js_set_eq (by rw [List.getElem?_append_left hla]; exact ha.2)
  · rw [js_set_ne (by omega), List.getElem?_append_right (by omega), hN, Nat.sub_self]
    rfl
