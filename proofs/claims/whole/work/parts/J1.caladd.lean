/-! ===== the class: add to an ArrayList (printed by program: gen103.py) ===== -/
/-- one more: what is told of the heap -/
def alN (h : jx_H) (a ea cap n b : Nat) (f : Nat → Value) (h' : jx_H) (ea' cap' : Nat) (f' : Nat → Value) : Prop := (∃ md : Int, h'[a]? = some (.inr (12, [.ref (ea'), .int (Int32.ofInt (((n + 1 : Nat) : Int))), .int (Int32.ofInt (md))]))) ∧ (50 ≤ ea' ∧ ea' < 4000000000 ∧ ¬ ea' = a ∧ h'[ea']? = some (.inl (6, cap', f')) ∧ n < cap' ∧ 10 ≤ cap' ∧ cap' ≤ 300) ∧ (∀ i, i < n → f' i = f i) ∧ f' n = .ref b ∧ (∀ (c : Nat) (y : jx_C), ¬ c = a → ¬ c = ea → h[c]? = some y → h'[c]? = some y) ∧ (h.length ≤ h'.length ∧ h'.length ≤ h.length + 1) ∧ (ea' = ea ∨ ea' = h.length) ∧ cvol h' + 4 * cap ≤ cvol h + 4 * cap' ∧ cap ≤ cap' ∧ (cap' = cap ∨ (cap' ≤ 10 + n + n / 2))
theorem alN_sto {h : jx_H} {a ea cap n b : Nat} {md : Int} {f : Nat → Value} {v : Value} (ha : 50 ≤ a ∧ a < 4000000000) (hA : h[a]? = some (.inr (12, [.ref ea, v, .int (Int32.ofInt md)]))) (he : 50 ≤ ea ∧ ea < 4000000000) (e3 : ¬ ea = a) (hE : h[ea]? = some (.inl (6, cap, f))) (hn : n < cap ∧ 10 ≤ cap ∧ cap ≤ 300) : alN h a ea cap n b f (List.set (List.set h ea (.inl (6, cap, updV f (((n : Nat) : Int)).toNat (.ref b)))) a (.inr (12, [.ref ea, .int (Int32.ofInt (((n : Nat) : Int) + 1)), .int (Int32.ofInt (md))]))) ea cap (updV f (((n : Nat) : Int)).toNat (.ref b)) := by
  have l1 : (List.set h ea (.inl (6, cap, updV f (((n : Nat) : Int)).toNat (.ref b)))).length = h.length := List.length_set
  have hA1 : (List.set h ea (.inl (6, cap, updV f (((n : Nat) : Int)).toNat (.ref b))))[a]? = some (.inr (12, [.ref ea, v, .int (Int32.ofInt md)])) := (js_set_ne (fun e => e3 e)).trans hA
  refine ⟨⟨md, ?_⟩, ⟨he.1, he.2, e3, ?_, hn.1, hn.2.1, hn.2.2⟩, fun i hi => ?_, ?_, fun c y c1 c2 hy => ?_, ⟨by rw [List.length_set, l1]; exact Nat.le_refl _, by rw [List.length_set, l1]; omega⟩, Or.inl rfl, ?_, Nat.le_refl _, Or.inl rfl⟩
  · rw [js_set_eq hA1, show (((n + 1 : Nat) : Int)) = ((n : Nat) : Int) + 1 by omega]
  · rw [js_set_ne (fun e => e3 e.symm)]
    exact js_set_eq hE
  · rw [Int.toNat_natCast, updV_ne _ _ (by omega)]
  · rw [Int.toNat_natCast, updV_at]
  · rw [js_set_ne (fun e => c1 e.symm), js_set_ne (fun e => c2 e.symm)]
    exact hy
  · rw [cvol_sO hA1, cvol_sA hE]
    exact Nat.le_refl _
theorem jc_g0 {β : Bool} {d : Nat} {h : jx_H} {κ : mS} (hl : 50 ≤ h.length) {N : Nat} (hN : h.length = N) (hb32 : N < 3000000000) {a : Nat} {md : Int} (ha : 50 ≤ a ∧ a < 4000000000) (hA : h[a]? = some (.inr (12, [.ref (jx_big + 53), .int (Int32.ofInt (0)), .int (Int32.ofInt (md))]))) : jx_r (jz β) jw_M (d + 1) 138 (0, [some (.ref a)], [], (cl_mk h κ)) (cl_mk (List.set (h ++ [.inl (6, 10, fun _ => .null)]) a (.inr (12, [.ref N, .int (Int32.ofInt (0)), .int (Int32.ofInt (md))]))) (κ), .inl (some (.ref (N)))) := by
  refine jr_1 jm_138 (show jw_cd cd_138 0 = some (.aload_n 0) by decide +kernel) rfl ?_
  refine jr_1 jm_138 (show jw_cd cd_138 1 = some (.aload_n 0) by decide +kernel) rfl ?_
  refine jr_1 jm_138 (show jw_cd cd_138 2 = some (.getfield 48) by decide +kernel) (js_getf (cl_old hl ⟨by omega, hA⟩) (jbg (by omega)) (show jw_fld 25 48 12 = some 1 by decide +kernel) rfl) ?_
  refine jr_1 jm_138 (show jw_cd cd_138 5 = some (.iconst 1) by decide +kernel) rfl ?_
  refine jr_1 jm_138 (show jw_cd cd_138 6 = some (.iadd) by decide +kernel) (mt_add (c := 1) (by decide)) ?_
  refine jr_c jm_138 (show jw_cd cd_138 7 = some (.invokevirtual 69) by decide +kernel) (ccv (n := 1) (m2 := 139) (ci := 12) (a := a) (bs := [.int (Int32.ofInt (1))]) (r := []) (js_cls (cl_old hl ⟨by omega, hA⟩) (jbg (by omega))) (show jw_find jw_cvT 25 69 = some (1, [(12, 139)]) by decide +kernel) (by decide) rfl rfl rfl) jm_139 ⟨Nat.le_of_ble_eq_true rfl, by decide⟩ (jc_gr0 hl hN hb32 ha hA) ?_
  exact jr_v jm_138 (show jw_cd cd_138 10 = some (.areturn) by decide +kernel) rfl
theorem jc_g1 {β : Bool} {d : Nat} {h : jx_H} {κ : mS} (hl : 50 ≤ h.length) {N : Nat} (hN : h.length = N) (hb32 : N < 3000000000) {a ea cap : Nat} {md : Int} {f : Nat → Value} (ha : 50 ≤ a ∧ a < 4000000000) (hA : h[a]? = some (.inr (12, [.ref ea, .int (Int32.ofInt (((cap : Nat) : Int))), .int (Int32.ofInt (md))]))) (he : 50 ≤ ea ∧ ea < 4000000000) (hE : h[ea]? = some (.inl (6, cap, f))) (hcap : 10 ≤ cap ∧ cap ≤ 200) (hf : ∀ i, i < cap → ∃ b ci, f i = .ref b ∧ jx_cls (jz β) (cl_mk (h ++ [.inl (6, ((((cap : Nat) : Int) + ((cap : Nat) : Int) / 2)).toNat, fun _ => .null)]) κ) b = some ci ∧ (ci = 13 ∨ ci = 14)) : jx_r (jz β) jw_M (d + 3) 138 (0, [some (.ref a)], [], (cl_mk h κ)) (cl_mk (List.set (h ++ [.inl (6, ((((cap : Nat) : Int) + ((cap : Nat) : Int) / 2)).toNat, va_cpy f (fun _ => .null) (0 : Int).toNat (0 : Int).toNat (((cap : Nat) : Int)).toNat)]) a (.inr (12, [.ref N, .int (Int32.ofInt (((cap : Nat) : Int))), .int (Int32.ofInt (md))]))) (κ), .inl (some (.ref (N)))) := by
  refine jr_1 jm_138 (show jw_cd cd_138 0 = some (.aload_n 0) by decide +kernel) rfl ?_
  refine jr_1 jm_138 (show jw_cd cd_138 1 = some (.aload_n 0) by decide +kernel) rfl ?_
  refine jr_1 jm_138 (show jw_cd cd_138 2 = some (.getfield 48) by decide +kernel) (js_getf (cl_old hl ⟨by omega, hA⟩) (jbg (by omega)) (show jw_fld 25 48 12 = some 1 by decide +kernel) rfl) ?_
  refine jr_1 jm_138 (show jw_cd cd_138 5 = some (.iconst 1) by decide +kernel) rfl ?_
  refine jr_1 jm_138 (show jw_cd cd_138 6 = some (.iadd) by decide +kernel) (mt_add (c := ((cap : Nat) : Int) + 1) rfl) ?_
  refine jr_c jm_138 (show jw_cd cd_138 7 = some (.invokevirtual 69) by decide +kernel) (ccv (n := 1) (m2 := 139) (ci := 12) (a := a) (bs := [.int (Int32.ofInt (((cap : Nat) : Int) + 1))]) (r := []) (js_cls (cl_old hl ⟨by omega, hA⟩) (jbg (by omega))) (show jw_find jw_cvT 25 69 = some (1, [(12, 139)]) by decide +kernel) (by decide) rfl rfl rfl) jm_139 ⟨Nat.le_of_ble_eq_true rfl, by decide⟩ (jc_gr1 hl hN hb32 ha hA he hE hcap hf) ?_
  exact jr_v jm_138 (show jw_cd cd_138 10 = some (.areturn) by decide +kernel) rfl
theorem jc_al137 {β : Bool} {d : Nat} {h : jx_H} {κ : mS} (hl : 50 ≤ h.length) {N : Nat} (hN : h.length = N) (hb32 : N < 3000000000) {a ea cap n b ci : Nat} {f : Nat → Value} {fs : List Value} (hU : alU h a ea cap n f) (hn : n ≤ 170 ∧ cap ≤ 300) (hb1 : 50 ≤ b ∧ b < 4000000000) (hb : h[b]? = some (.inr (ci, fs))) (hci : ci = 13 ∨ ci = 14) : ∃ (h' : jx_H) (ea' cap' : Nat) (f' : Nat → Value), jx_r (jz β) jw_M (d + 4) 137 (0, [some (.ref a), some (.ref b), some (.ref ea), some (.int (Int32.ofInt (((n : Nat) : Int))))], [], (cl_mk h κ)) (cl_mk h' (κ), .inl none) ∧ alN h a ea cap n b f h' ea' cap' f' := by
  obtain ⟨ha, ⟨md, hA⟩, hor, hel⟩ := hU
  have hbc : ∀ (H : jx_H), H[b]? = some (.inr (ci, fs)) → 50 ≤ H.length → jx_cls (jz β) (cl_mk H κ) b = some ci := fun H hH hHl => js_cls (cl_old hHl ⟨by omega, hH⟩) (jbg (by omega))
  have hba : ¬ b = a := fun e => by
    rw [e, hA] at hb
    injection hb with q
    injection q with q
    injection q with q1 q2
    omega
  have hal := (List.getElem?_eq_some_iff.mp hA).1
  have hbl := (List.getElem?_eq_some_iff.mp hb).1
  by_cases hnc : n < cap
  · rcases hor with ⟨-, e, -⟩ | ⟨e1, e2, e3, hE, e5, e6, e7⟩
    · omega
    refine ⟨_, ea, cap, _, ?_, alN_sto ha hA ⟨e1, e2⟩ e3 hE ⟨hnc, e6, e7⟩⟩
    refine jr_1 jm_137 (show jw_cd cd_137 0 = some (.iload_n 3) by decide +kernel) rfl ?_
    refine jr_1 jm_137 (show jw_cd cd_137 1 = some (.aload_n 2) by decide +kernel) rfl ?_
    refine jr_1 jm_137 (show jw_cd cd_137 2 = some (.arraylength) by decide +kernel) (cln (jx_ar_h (cl_old hl ⟨by omega, hE⟩) (jbg (by omega))) (by decide)) ?_
    refine jr_1 jm_137 (show jw_cd cd_137 3 = some (.if_icmp .ne 8) by decide +kernel) (mb_t (q := .ne) (a := ((n : Nat) : Int)) (b := ((cap : Nat) : Int)) (t := 11) (by show ¬ (((n : Nat) : Int) = ((cap : Nat) : Int)); omega) ⟨by omega, by omega⟩ ⟨by omega, by omega⟩ (by decide) (by decide)) ?_
    exact jc_al11 hl ha hA ⟨e1, e2⟩ e3 hE ⟨hnc, by omega⟩ (hbc h hb hl) hci
  rcases hor with ⟨rfl, rfl, rfl⟩ | ⟨e1, e2, e3, hE, e5, e6, e7⟩
  · obtain ⟨hg, eg⟩ : ∃ hg : jx_H, hg = (List.set (h ++ [.inl (6, 10, fun _ => .null)]) a (.inr (12, [.ref N, .int (Int32.ofInt (0)), .int (Int32.ofInt (md))]))) := ⟨_, rfl⟩
    have lg : hg.length = N + 1 := by rw [eg, List.length_set, List.length_append, hN]; rfl
    have gA : hg[a]? = some (.inr (12, [.ref N, .int (Int32.ofInt (((0 : Nat) : Int))), .int (Int32.ofInt (md))])) := by rw [eg]; exact js_set_eq (y := .inr (12, [.ref (jx_big + 53), .int (Int32.ofInt (0)), .int (Int32.ofInt (md))])) (by rw [List.getElem?_append_left hal]; exact hA)
    have gN : hg[N]? = some (.inl (6, 10, fun _ => .null)) := by
      rw [eg, js_set_ne (by omega), ← hN, List.getElem?_append_right (Nat.le_refl _), Nat.sub_self]
      rfl
    have gB : hg[b]? = some (.inr (ci, fs)) := by
      rw [eg, js_set_ne (fun e => hba e.symm), List.getElem?_append_left hbl]
      exact hb
    have gv : cvol hg = cvol h + 10 := by
      rw [eg, cvol_sO (l := [.ref (jx_big + 53), .int (Int32.ofInt 0), .int (Int32.ofInt md)]) (by rw [List.getElem?_append_left hal]; exact hA), cvol_app]
      rfl
    have hr := jc_al11 (β := β) (d := d + 4) (κ := κ) (h := hg) (by omega) ha gA ⟨by omega, by omega⟩ (by omega) gN (n := 0) ⟨by decide, by decide⟩ (hbc hg gB (by omega)) hci
    obtain ⟨m1, m2, m3, m4, m5, m6, m7, m8, m9, m10⟩ := alN_sto (b := b) (n := 0) ha gA ⟨by omega, by omega⟩ (by omega) gN ⟨by decide, by decide, by decide⟩
    refine ⟨_, N, 10, _, ?_, m1, m2, fun i hi => absurd hi (Nat.not_lt_zero i), m4, fun c y c1 c2 hy => m5 c y c1 (fun e => ?_) ?_, ⟨by rw [List.length_set, List.length_set]; omega, by rw [List.length_set, List.length_set]; omega⟩, Or.inr hN.symm, by omega, by decide, Or.inr (by decide)⟩
    · refine jr_1 jm_137 (show jw_cd cd_137 0 = some (.iload_n 3) by decide +kernel) rfl ?_
      refine jr_1 jm_137 (show jw_cd cd_137 1 = some (.aload_n 2) by decide +kernel) rfl ?_
      refine jr_1 jm_137 (show jw_cd cd_137 2 = some (.arraylength) by decide +kernel) (cln jw_ema (by decide)) ?_
      refine jr_1 jm_137 (show jw_cd cd_137 3 = some (.if_icmp .ne 8) by decide +kernel) (mb_f (q := .ne) (a := ((0 : Nat) : Int)) (b := 0) (by show ¬ (¬ (((0 : Nat) : Int) = 0)); omega) ⟨by omega, by omega⟩ ⟨by omega, by omega⟩ (by decide)) ?_
      refine jr_1 jm_137 (show jw_cd cd_137 6 = some (.aload_n 0) by decide +kernel) rfl ?_
      refine jr_c jm_137 (show jw_cd cd_137 7 = some (.invokevirtual 129) by decide +kernel) (ccv (n := 0) (m2 := 138) (ci := 12) (a := a) (bs := []) (r := []) (js_cls (cl_old hl ⟨by omega, hA⟩) (jbg (by omega))) (show jw_find jw_cvT 25 129 = some (0, [(12, 138)]) by decide +kernel) (by decide) rfl rfl rfl) jm_138 ⟨Nat.le_of_ble_eq_true rfl, by decide⟩ (jc_g0 hl hN hb32 ha hA) ?_
      refine jr_1 jm_137 (F2 := (11, [some (.ref a), some (.ref b), some (.ref N), some (.int (Int32.ofInt (((0 : Nat) : Int))))], [], (cl_mk (List.set (h ++ [.inl (6, 10, fun _ => .null)]) a (.inr (12, [.ref N, .int (Int32.ofInt (0)), .int (Int32.ofInt (md))]))) κ))) (show jw_cd cd_137 10 = some (.astore_n 2) by decide +kernel) rfl ?_
      rw [← eg]
      exact hr
    · have := (List.getElem?_eq_some_iff.mp hy).1
      omega
    · rw [eg, js_set_ne (fun e => c1 e.symm), List.getElem?_append_left (List.getElem?_eq_some_iff.mp hy).1]
      exact hy
  · obtain rfl : cap = n := by omega
    obtain ⟨w, ew⟩ : ∃ w : Nat, w = ((((cap : Nat) : Int) + ((cap : Nat) : Int) / 2)).toNat := ⟨_, rfl⟩
    obtain ⟨fg, ef⟩ : ∃ fg : Nat → Value, fg = va_cpy f (fun _ => .null) (0 : Int).toNat (0 : Int).toNat (((cap : Nat) : Int)).toNat := ⟨_, rfl⟩
    obtain ⟨hg, eg⟩ : ∃ hg : jx_H, hg = (List.set (h ++ [.inl (6, ((((cap : Nat) : Int) + ((cap : Nat) : Int) / 2)).toNat, va_cpy f (fun _ => .null) (0 : Int).toNat (0 : Int).toNat (((cap : Nat) : Int)).toNat)]) a (.inr (12, [.ref N, .int (Int32.ofInt (((cap : Nat) : Int))), .int (Int32.ofInt (md))]))) := ⟨_, rfl⟩
    have lg : hg.length = N + 1 := by rw [eg, List.length_set, List.length_append, hN]; rfl
    have gA : hg[a]? = some (.inr (12, [.ref N, .int (Int32.ofInt (((cap : Nat) : Int))), .int (Int32.ofInt (md))])) := by rw [eg]; exact js_set_eq (y := .inr (12, [.ref ea, .int (Int32.ofInt (((cap : Nat) : Int))), .int (Int32.ofInt (md))])) (by rw [List.getElem?_append_left hal]; exact hA)
    have gN : hg[N]? = some (.inl (6, w, fg)) := by
      rw [eg, js_set_ne (by omega), ← hN, List.getElem?_append_right (Nat.le_refl _), Nat.sub_self, ew, ef]
      rfl
    have gB : hg[b]? = some (.inr (ci, fs)) := by
      rw [eg, js_set_ne (fun e => hba e.symm), List.getElem?_append_left hbl]
      exact hb
    have gv : cvol hg = cvol h + w := by
      rw [eg, cvol_sO (l := [.ref ea, .int (Int32.ofInt ((cap : Nat) : Int)), .int (Int32.ofInt md)]) (by rw [List.getElem?_append_left hal]; exact hA), cvol_app, ew]
      rfl
    have hf : ∀ i, i < cap → ∃ b ci, f i = .ref b ∧ jx_cls (jz β) (cl_mk (h ++ [.inl (6, ((((cap : Nat) : Int) + ((cap : Nat) : Int) / 2)).toNat, fun _ => .null)]) κ) b = some ci ∧ (ci = 13 ∨ ci = 14) := fun i hi => by
      obtain ⟨b', ci', fs', q1, q2, q3, q4⟩ := hel i hi
      exact ⟨b', ci', q1, js_cls (ap_old hl ⟨by omega, q3⟩) (jbg (by omega)), q4⟩
    have hr := jc_al11 (β := β) (d := d + 4) (κ := κ) (h := hg) (by omega) ha gA ⟨by omega, by omega⟩ (by omega) gN (n := cap) ⟨by omega, by omega⟩ (hbc hg gB (by omega)) hci
    obtain ⟨m1, m2, m3, m4, m5, m6, m7, m8, m9, m10⟩ := alN_sto (b := b) (n := cap) ha gA ⟨by omega, by omega⟩ (by omega) gN ⟨by omega, by omega, by omega⟩
    refine ⟨_, N, w, _, ?_, m1, m2, fun i hi => (m3 i hi).trans ?_, m4, fun c y c1 c2 hy => m5 c y c1 (fun e => ?_) ?_, ⟨by rw [List.length_set, List.length_set]; omega, by rw [List.length_set, List.length_set]; omega⟩, Or.inr hN.symm, by omega, by omega, Or.inr (by omega)⟩
    · refine jr_1 jm_137 (show jw_cd cd_137 0 = some (.iload_n 3) by decide +kernel) rfl ?_
      refine jr_1 jm_137 (show jw_cd cd_137 1 = some (.aload_n 2) by decide +kernel) rfl ?_
      refine jr_1 jm_137 (show jw_cd cd_137 2 = some (.arraylength) by decide +kernel) (cln (jx_ar_h (cl_old hl ⟨by omega, hE⟩) (jbg (by omega))) (by decide)) ?_
      refine jr_1 jm_137 (show jw_cd cd_137 3 = some (.if_icmp .ne 8) by decide +kernel) (mb_f (q := .ne) (a := ((cap : Nat) : Int)) (b := ((cap : Nat) : Int)) (by show ¬ (¬ (((cap : Nat) : Int) = ((cap : Nat) : Int))); omega) ⟨by omega, by omega⟩ ⟨by omega, by omega⟩ (by decide)) ?_
      refine jr_1 jm_137 (show jw_cd cd_137 6 = some (.aload_n 0) by decide +kernel) rfl ?_
      refine jr_c jm_137 (show jw_cd cd_137 7 = some (.invokevirtual 129) by decide +kernel) (ccv (n := 0) (m2 := 138) (ci := 12) (a := a) (bs := []) (r := []) (js_cls (cl_old hl ⟨by omega, hA⟩) (jbg (by omega))) (show jw_find jw_cvT 25 129 = some (0, [(12, 138)]) by decide +kernel) (by decide) rfl rfl rfl) jm_138 ⟨Nat.le_of_ble_eq_true rfl, by decide⟩ (jc_g1 hl hN hb32 ha hA ⟨e1, e2⟩ hE ⟨by omega, by omega⟩ hf) ?_
      refine jr_1 jm_137 (F2 := (11, [some (.ref a), some (.ref b), some (.ref N), some (.int (Int32.ofInt (((cap : Nat) : Int))))], [], (cl_mk (List.set (h ++ [.inl (6, ((((cap : Nat) : Int) + ((cap : Nat) : Int) / 2)).toNat, va_cpy f (fun _ => .null) (0 : Int).toNat (0 : Int).toNat (((cap : Nat) : Int)).toNat)]) a (.inr (12, [.ref N, .int (Int32.ofInt (((cap : Nat) : Int))), .int (Int32.ofInt (md))]))) κ))) (show jw_cd cd_137 10 = some (.astore_n 2) by decide +kernel) rfl ?_
      rw [← eg]
      exact hr
    · rw [ef]
      exact (if_pos ⟨Nat.zero_le _, by show i < 0 + (((cap : Nat) : Int)).toNat; omega⟩).trans (by show f (0 + (i - 0)) = f i; rw [Nat.zero_add, Nat.sub_zero])
    · have := (List.getElem?_eq_some_iff.mp hy).1
      omega
    · rw [eg, js_set_ne (fun e => c1 e.symm), List.getElem?_append_left (List.getElem?_eq_some_iff.mp hy).1]
      exact hy
theorem jc_alAdd {β : Bool} {d : Nat} {h : jx_H} {κ : mS} (hl : 50 ≤ h.length) {N : Nat} (hN : h.length = N) (hb32 : N < 3000000000) {a ea cap n b ci : Nat} {f : Nat → Value} {fs : List Value} (hU : alU h a ea cap n f) (hn : n ≤ 170 ∧ cap ≤ 300) (hb1 : 50 ≤ b ∧ b < 4000000000) (hb : h[b]? = some (.inr (ci, fs))) (hci : ci = 13 ∨ ci = 14) : ∃ (h' : jx_H) (ea' cap' : Nat) (f' : Nat → Value), jx_r (jz β) jw_M (d + 5) 136 (0, [some (.ref a), some (.ref b)], [], (cl_mk h κ)) (cl_mk h' (κ), .inl (some (.int (Int32.ofInt (1))))) ∧ alN h a ea cap n b f h' ea' cap' f' := by
  have hU0 := hU
  obtain ⟨ha, ⟨md, hA⟩, hor, hel⟩ := hU
  have l1 : (List.set h a (.inr (12, [.ref ea, .int (Int32.ofInt (((n : Nat) : Int))), .int (Int32.ofInt (md + 1))]))).length = N := by rw [List.length_set]; exact hN
  have hba : ¬ b = a := fun e => by
    rw [e, hA] at hb
    injection hb with q
    injection q with q
    injection q with q1 q2
    omega
  have hU1 : alU (List.set h a (.inr (12, [.ref ea, .int (Int32.ofInt (((n : Nat) : Int))), .int (Int32.ofInt (md + 1))]))) a ea cap n f := by
    refine ⟨ha, ⟨md + 1, js_set_eq hA⟩, ?_, fun i hi => ?_⟩
    · rcases hor with e | ⟨e1, e2, e3, hE, e5⟩
      · exact Or.inl e
      · exact Or.inr ⟨e1, e2, e3, (js_set_ne (fun e => e3 e.symm)).trans hE, e5⟩
    · obtain ⟨b', ci', fs', q1, q2, q3, q4⟩ := hel i hi
      refine ⟨b', ci', fs', q1, q2, (js_set_ne (fun e => ?_)).trans q3, q4⟩
      rw [← e, hA] at q3
      injection q3 with q
      injection q with q
      injection q with q1 q2
      omega
  obtain ⟨h', ea', cap', f', hr, m1, m2, m3, m4, m5, m6, m7, m8, m9, m10⟩ := jc_al137 (β := β) (d := d) (κ := κ) (by rw [l1]; omega) l1 hb32 hU1 hn hb1 ((js_set_ne (fun e => hba e.symm)).trans hb) hci
  rw [l1] at m6 m7
  rw [cvol_sO hA] at m8
  refine ⟨h', ea', cap', f', ?_, m1, m2, m3, m4, fun c y c1 c2 hy => m5 c y c1 c2 ((js_set_ne (fun e => c1 e.symm)).trans hy), by omega, by rw [hN]; exact m7, m8, m9, m10⟩
  refine jr_1 jm_136 (show jw_cd cd_136 0 = some (.aload_n 0) by decide +kernel) rfl ?_
  refine jr_1 jm_136 (show jw_cd cd_136 1 = some (.dup) by decide +kernel) rfl ?_
  refine jr_1 jm_136 (show jw_cd cd_136 2 = some (.getfield 63) by decide +kernel) (js_getf (cl_old hl ⟨by omega, hA⟩) (jbg (by omega)) (show jw_fld 25 63 12 = some 2 by decide +kernel) rfl) ?_
  refine jr_1 jm_136 (show jw_cd cd_136 5 = some (.iconst 1) by decide +kernel) rfl ?_
  refine jr_1 jm_136 (show jw_cd cd_136 6 = some (.iadd) by decide +kernel) (mt_add (c := md + 1) rfl) ?_
  refine jr_1 jm_136 (F2 := (10, [some (.ref a), some (.ref b)], [], (cl_mk (List.set h a (.inr (12, [.ref ea, .int (Int32.ofInt (((n : Nat) : Int))), .int (Int32.ofInt (md + 1))]))) κ))) (show jw_cd cd_136 7 = some (.putfield 63) by decide +kernel) (cpf (cl_old hl ⟨by omega, hA⟩) (jbg (by omega)) (show jw_fld 25 63 12 = some 2 by decide +kernel) (show jw_ft 12 2 = some (.int) from rfl) (show jw_fm 25 12 2 = some false by decide +kernel) rfl rfl (cl_set (by omega) (by omega))) ?_
  refine jr_1 jm_136 (show jw_cd cd_136 10 = some (.aload_n 0) by decide +kernel) rfl ?_
  refine jr_1 jm_136 (show jw_cd cd_136 11 = some (.aload_n 1) by decide +kernel) rfl ?_
  refine jr_1 jm_136 (show jw_cd cd_136 12 = some (.aload_n 0) by decide +kernel) rfl ?_
  refine jr_1 jm_136 (show jw_cd cd_136 13 = some (.getfield 9) by decide +kernel) (js_getf (cl_old (by rw [List.length_set]; exact hl) ⟨by omega, js_set_eq hA⟩) (jbg (by omega)) (show jw_fld 25 9 12 = some 0 by decide +kernel) rfl) ?_
  refine jr_1 jm_136 (show jw_cd cd_136 16 = some (.aload_n 0) by decide +kernel) rfl ?_
  refine jr_1 jm_136 (show jw_cd cd_136 17 = some (.getfield 48) by decide +kernel) (js_getf (cl_old (by rw [List.length_set]; exact hl) ⟨by omega, js_set_eq hA⟩) (jbg (by omega)) (show jw_fld 25 48 12 = some 1 by decide +kernel) rfl) ?_
  refine jr_c jm_136 (show jw_cd cd_136 20 = some (.invokevirtual 131) by decide +kernel) (ccv (n := 3) (m2 := 137) (ci := 12) (a := a) (bs := [.ref b, .ref ea, .int (Int32.ofInt (((n : Nat) : Int)))]) (r := []) (js_cls (cl_old (by rw [List.length_set]; exact hl) ⟨by omega, js_set_eq hA⟩) (jbg (by omega))) (show jw_find jw_cvT 25 131 = some (3, [(12, 137)]) by decide +kernel) (by decide) rfl rfl rfl) jm_137 ⟨Nat.le_of_ble_eq_true rfl, by decide⟩ hr ?_
  refine jr_1 jm_136 (show jw_cd cd_136 23 = some (.iconst 1) by decide +kernel) rfl ?_
  exact jr_v jm_136 (show jw_cd cd_136 24 = some (.ireturn) by decide +kernel) rfl
