/-! ===== the class: add to a list under construction (printed by program: gen82.py) ===== -/
theorem jc_add33 {β : Bool} {d : Nat} {h : jx_H} {κ : mS} (hl : 50 ≤ h.length) {a v ka ia t sz : Nat} {kd nm : Int} (ha : 15 ≤ a ∧ a < 4000000000 ∧ h[a]? = some (.inr (5, [.int (Int32.ofInt (kd)), .int (Int32.ofInt (nm)), .ref t, .ref ka, .ref ia, .int (Int32.ofInt ((sz : Int)))]))) : jx_r (jz β) jw_M (d) 94 (33, [some (.ref a), some (.ref v)], [], (cl_mk h κ)) (cl_mk (List.set h a (.inr (5, [.int (Int32.ofInt (kd)), .int (Int32.ofInt (nm)), .ref t, .ref ka, .ref ia, .int (Int32.ofInt ((sz : Int) + 1))]))) (κ), .inl none) := by
  obtain ⟨ha0, ha1, ha2⟩ := ha
  have ha : 15 ≤ a ∧ a < 4000000000 ∧ _ := ⟨ha0, ha1, ha2⟩
  refine jr_1 jm_94 (show jw_cd cd_94 33 = some (.aload_n 0) by decide +kernel) rfl ?_
  refine jr_1 jm_94 (show jw_cd cd_94 34 = some (.dup) by decide +kernel) rfl ?_
  refine jr_1 jm_94 (show jw_cd cd_94 35 = some (.getfield 29) by decide +kernel) (js_getf (cl_old hl ⟨ha.1, ha.2.2⟩) (jbg (by omega)) (show jw_fld 8 29 5 = some 5 by decide +kernel) rfl) ?_
  refine jr_1 jm_94 (show jw_cd cd_94 38 = some (.iconst 1) by decide +kernel) rfl ?_
  refine jr_1 jm_94 (show jw_cd cd_94 39 = some (.iadd) by decide +kernel) (mt_add (c := (sz : Int) + 1) rfl) ?_
  refine jr_1 jm_94 (F2 := (43, [some (.ref a), some (.ref v)], [], (cl_mk (List.set h a (.inr (5, [.int (Int32.ofInt (kd)), .int (Int32.ofInt (nm)), .ref t, .ref ka, .ref ia, .int (Int32.ofInt ((sz : Int) + 1))]))) κ))) (show jw_cd cd_94 40 = some (.putfield 29) by decide +kernel) (cpf (cl_old hl ⟨ha.1, ha.2.2⟩) (jbg (by omega)) (show jw_fld 8 29 5 = some 5 by decide +kernel) (show jw_ft 5 5 = some (.int) from rfl) (show jw_fm 8 5 5 = some false by decide +kernel) rfl rfl (cl_set (by omega) (by omega))) ?_
  exact jr_v jm_94 (show jw_cd cd_94 43 = some (.return_) by decide +kernel) rfl
theorem jc_add23 {β : Bool} {d : Nat} {h : jx_H} {κ : mS} (hl : 50 ≤ h.length) {a v ka ia ic t sz : Nat} {kd nm : Int} {f : Nat → Value} (ha : 15 ≤ a ∧ a < 4000000000 ∧ h[a]? = some (.inr (5, [.int (Int32.ofInt (kd)), .int (Int32.ofInt (nm)), .ref t, .ref ka, .ref ia, .int (Int32.ofInt ((sz : Int)))]))) (hia : 15 ≤ ia ∧ ia < 4000000000 ∧ h[ia]? = some (.inl (4, ic, f))) (hne : ¬ a = ia) (hs : sz < ic) (hi : ic ≤ 100000) (hv : jx_cls (jz β) (cl_mk h κ) v = some 5) : jx_r (jz β) jw_M (d) 94 (23, [some (.ref a), some (.ref v)], [], (cl_mk h κ)) (cl_mk (List.set (List.set h ia (.inl (4, ic, updV f ((sz : Int)).toNat (.ref v)))) a (.inr (5, [.int (Int32.ofInt (kd)), .int (Int32.ofInt (nm)), .ref t, .ref ka, .ref ia, .int (Int32.ofInt ((sz : Int) + 1))]))) (κ), .inl none) := by
  obtain ⟨ha0, ha1, ha2⟩ := ha
  have ha : 15 ≤ a ∧ a < 4000000000 ∧ _ := ⟨ha0, ha1, ha2⟩
  obtain ⟨hi0, hi1, hi2⟩ := hia
  have hia : 15 ≤ ia ∧ ia < 4000000000 ∧ _ := ⟨hi0, hi1, hi2⟩
  refine jr_1 jm_94 (show jw_cd cd_94 23 = some (.aload_n 0) by decide +kernel) rfl ?_
  refine jr_1 jm_94 (show jw_cd cd_94 24 = some (.getfield 26) by decide +kernel) (js_getf (cl_old hl ⟨ha.1, ha.2.2⟩) (jbg (by omega)) (show jw_fld 8 26 5 = some 4 by decide +kernel) rfl) ?_
  refine jr_1 jm_94 (show jw_cd cd_94 27 = some (.aload_n 0) by decide +kernel) rfl ?_
  refine jr_1 jm_94 (show jw_cd cd_94 28 = some (.getfield 29) by decide +kernel) (js_getf (cl_old hl ⟨ha.1, ha.2.2⟩) (jbg (by omega)) (show jw_fld 8 29 5 = some 5 by decide +kernel) rfl) ?_
  refine jr_1 jm_94 (show jw_cd cd_94 31 = some (.aload_n 1) by decide +kernel) rfl ?_
  refine jr_1 jm_94 (F2 := (33, [some (.ref a), some (.ref v)], [], (cl_mk (List.set h ia (.inl (4, ic, updV f ((sz : Int)).toNat (.ref v)))) κ))) (show jw_cd cd_94 32 = some (.aastore) by decide +kernel) (csa (cl_old hl ⟨hia.1, hia.2.2⟩) (jbg (by omega)) hv (by omega) (by omega) (by omega) (cl_set (by omega) (by omega))) ?_
  exact jc_add33 (by rw [List.length_set]; exact hl) ⟨ha0, ha1, by rw [js_set_ne (fun e => hne e.symm)]; exact ha2⟩
theorem jc_addN {β : Bool} {d : Nat} {h : jx_H} {κ : mS} (hl : 50 ≤ h.length) {a v ka ia ic t sz : Nat} {kd nm : Int} {f : Nat → Value} (ha : 15 ≤ a ∧ a < 4000000000 ∧ h[a]? = some (.inr (5, [.int (Int32.ofInt (kd)), .int (Int32.ofInt (nm)), .ref t, .ref ka, .ref ia, .int (Int32.ofInt ((sz : Int)))]))) (hia : 15 ≤ ia ∧ ia < 4000000000 ∧ h[ia]? = some (.inl (4, ic, f))) (hne : ¬ a = ia) (hs : sz < ic) (hi : ic ≤ 100000) (hv : jx_cls (jz β) (cl_mk h κ) v = some 5) : jx_r (jz β) jw_M (d) 94 (0, [some (.ref a), some (.ref v)], [], (cl_mk h κ)) (cl_mk (List.set (List.set h ia (.inl (4, ic, updV f ((sz : Int)).toNat (.ref v)))) a (.inr (5, [.int (Int32.ofInt (kd)), .int (Int32.ofInt (nm)), .ref t, .ref ka, .ref ia, .int (Int32.ofInt ((sz : Int) + 1))]))) (κ), .inl none) := by
  obtain ⟨ha0, ha1, ha2⟩ := ha
  have ha : 15 ≤ a ∧ a < 4000000000 ∧ _ := ⟨ha0, ha1, ha2⟩
  obtain ⟨hi0, hi1, hi2⟩ := hia
  have hia : 15 ≤ ia ∧ ia < 4000000000 ∧ _ := ⟨hi0, hi1, hi2⟩
  refine jr_1 jm_94 (show jw_cd cd_94 0 = some (.aload_n 0) by decide +kernel) rfl ?_
  refine jr_1 jm_94 (show jw_cd cd_94 1 = some (.getfield 29) by decide +kernel) (js_getf (cl_old hl ⟨ha.1, ha.2.2⟩) (jbg (by omega)) (show jw_fld 8 29 5 = some 5 by decide +kernel) rfl) ?_
  refine jr_1 jm_94 (show jw_cd cd_94 4 = some (.aload_n 0) by decide +kernel) rfl ?_
  refine jr_1 jm_94 (show jw_cd cd_94 5 = some (.getfield 26) by decide +kernel) (js_getf (cl_old hl ⟨ha.1, ha.2.2⟩) (jbg (by omega)) (show jw_fld 8 26 5 = some 4 by decide +kernel) rfl) ?_
  refine jr_1 jm_94 (show jw_cd cd_94 8 = some (.arraylength) by decide +kernel) (cln (jx_ar_h (cl_old hl ⟨hia.1, hia.2.2⟩) (jbg (by omega))) (by decide)) ?_
  refine jr_1 jm_94 (show jw_cd cd_94 9 = some (.if_icmp .ne 14) by decide +kernel) (mb_t (q := .ne) (a := (sz : Int)) (b := ((ic : Nat) : Int)) (t := 23) (by show ¬ ((sz : Int) = ((ic : Nat) : Int)); omega) ⟨by omega, by omega⟩ ⟨by omega, by omega⟩ (by decide) (by decide)) ?_
  exact jc_add23 hl ha hia hne hs hi hv
theorem jc_addW {β : Bool} {d : Nat} {h : jx_H} {κ : mS} (hl : 50 ≤ h.length) {N : Nat} (hN : h.length = N) (hb32 : N < 3000000000) {a v ka ia ic t sz : Nat} {kd nm : Int} {f : Nat → Value} (ha : 15 ≤ a ∧ a < 4000000000 ∧ h[a]? = some (.inr (5, [.int (Int32.ofInt (kd)), .int (Int32.ofInt (nm)), .ref t, .ref ka, .ref ia, .int (Int32.ofInt ((sz : Int)))]))) (hia : 15 ≤ ia ∧ ia < 4000000000 ∧ h[ia]? = some (.inl (4, ic, f))) (hne : ¬ a = ia) (hs : sz = ic) (hi : ic ≤ 10000) (hf : ∀ i, i < ic → ∃ b, f i = .ref b ∧ jx_cls (jz β) (cl_mk (h ++ [.inl (4, (2 * (ic : Int) + 2).toNat, fun _ => .null)]) κ) b = some 5) (hv : jx_cls (jz β) (cl_mk (List.set (h ++ [.inl (4, (2 * (ic : Int) + 2).toNat, va_cpy f (fun _ => .null) (0 : Int).toNat (0 : Int).toNat ((ic : Int)).toNat)]) a (.inr (5, [.int (Int32.ofInt (kd)), .int (Int32.ofInt (nm)), .ref t, .ref ka, .ref N, .int (Int32.ofInt ((sz : Int)))]))) κ) v = some 5) : jx_r (jz β) jw_M (d + 1) 94 (0, [some (.ref a), some (.ref v)], [], (cl_mk h κ)) (cl_mk (List.set (List.set (List.set (h ++ [.inl (4, (2 * (ic : Int) + 2).toNat, va_cpy f (fun _ => .null) (0 : Int).toNat (0 : Int).toNat ((ic : Int)).toNat)]) a (.inr (5, [.int (Int32.ofInt (kd)), .int (Int32.ofInt (nm)), .ref t, .ref ka, .ref N, .int (Int32.ofInt ((sz : Int)))]))) N (.inl (4, (2 * (ic : Int) + 2).toNat, updV (va_cpy f (fun _ => .null) (0 : Int).toNat (0 : Int).toNat ((ic : Int)).toNat) ((sz : Int)).toNat (.ref v)))) a (.inr (5, [.int (Int32.ofInt (kd)), .int (Int32.ofInt (nm)), .ref t, .ref ka, .ref N, .int (Int32.ofInt ((sz : Int) + 1))]))) (κ), .inl none) := by
  obtain ⟨ha0, ha1, ha2⟩ := ha
  have ha : 15 ≤ a ∧ a < 4000000000 ∧ _ := ⟨ha0, ha1, ha2⟩
  obtain ⟨hi0, hi1, hi2⟩ := hia
  have hia : 15 ≤ ia ∧ ia < 4000000000 ∧ _ := ⟨hi0, hi1, hi2⟩
  have hlt := (List.getElem?_eq_some_iff.mp ha2).1
  refine jr_1 jm_94 (show jw_cd cd_94 0 = some (.aload_n 0) by decide +kernel) rfl ?_
  refine jr_1 jm_94 (show jw_cd cd_94 1 = some (.getfield 29) by decide +kernel) (js_getf (cl_old hl ⟨ha.1, ha.2.2⟩) (jbg (by omega)) (show jw_fld 8 29 5 = some 5 by decide +kernel) rfl) ?_
  refine jr_1 jm_94 (show jw_cd cd_94 4 = some (.aload_n 0) by decide +kernel) rfl ?_
  refine jr_1 jm_94 (show jw_cd cd_94 5 = some (.getfield 26) by decide +kernel) (js_getf (cl_old hl ⟨ha.1, ha.2.2⟩) (jbg (by omega)) (show jw_fld 8 26 5 = some 4 by decide +kernel) rfl) ?_
  refine jr_1 jm_94 (show jw_cd cd_94 8 = some (.arraylength) by decide +kernel) (cln (jx_ar_h (cl_old hl ⟨hia.1, hia.2.2⟩) (jbg (by omega))) (by decide)) ?_
  refine jr_1 jm_94 (show jw_cd cd_94 9 = some (.if_icmp .ne 14) by decide +kernel) (mb_f (q := .ne) (a := (sz : Int)) (b := ((ic : Nat) : Int)) (by show ¬ (¬ ((sz : Int) = ((ic : Nat) : Int))); omega) ⟨by omega, by omega⟩ ⟨by omega, by omega⟩ (by decide)) ?_
  refine jr_1 jm_94 (show jw_cd cd_94 12 = some (.aload_n 0) by decide +kernel) rfl ?_
  refine jr_1 jm_94 (show jw_cd cd_94 13 = some (.aload_n 0) by decide +kernel) rfl ?_
  refine jr_1 jm_94 (show jw_cd cd_94 14 = some (.getfield 26) by decide +kernel) (js_getf (cl_old hl ⟨ha.1, ha.2.2⟩) (jbg (by omega)) (show jw_fld 8 26 5 = some 4 by decide +kernel) rfl) ?_
  refine jr_c jm_94 (show jw_cd cd_94 17 = some (.invokestatic 37) by decide +kernel) (mc_s (n := 1) (m2 := 95) (bs := [.ref ia]) (r := [.ref a]) (by decide) (show jw_find jw_csT 8 37 = some (95, 1) by decide +kernel) rfl rfl rfl) jm_95 ⟨Nat.le_of_ble_eq_true rfl, by decide⟩ (jc_wid hl hN hb32 ⟨hia.1, hia.2.2⟩ (by omega) hf) ?_
  refine jr_1 jm_94 (F2 := (23, [some (.ref a), some (.ref v)], [], (cl_mk (List.set (h ++ [.inl (4, (2 * (ic : Int) + 2).toNat, va_cpy f (fun _ => .null) (0 : Int).toNat (0 : Int).toNat ((ic : Int)).toNat)]) a (.inr (5, [.int (Int32.ofInt (kd)), .int (Int32.ofInt (nm)), .ref t, .ref ka, .ref N, .int (Int32.ofInt ((sz : Int)))]))) κ))) (show jw_cd cd_94 20 = some (.putfield 26) by decide +kernel) (cpf (ap_old hl ⟨ha.1, ha.2.2⟩) (jbg (by omega)) (show jw_fld 8 26 5 = some 4 by decide +kernel) (show jw_ft 5 4 = some (.array (.object "PickDesk$Value")) from rfl) (show jw_fm 8 5 4 = some false by decide +kernel) rfl rfl (cl_set (by rw [List.length_append]; omega) (by omega))) ?_
  refine jc_add23 (by rw [List.length_set, List.length_append]; omega) ⟨ha0, ha1, ?_⟩ ⟨by omega, by omega, ?_⟩ (by omega) (by omega) (by omega) hv
  · exact js_set_eq (by rw [List.getElem?_append_left hlt]; exact ha2)
  · rw [js_set_ne (by omega), List.getElem?_append_right (by omega), hN, Nat.sub_self]
    rfl
