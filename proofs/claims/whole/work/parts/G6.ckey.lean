/-! ===== the class reads a key, a text (printed by program: gen78.py) ===== -/
theorem jm_98 : jw_M 98 = some (2, 2, ((Option.some (Jvm.ClassFile.FieldType.object "java/lang/String")), false), jw_cd cd_98, fun _ _ => none) := rfl
theorem jm_65 : jw_M 65 = some (2, 2, ((Option.some (Jvm.ClassFile.FieldType.object "java/lang/String")), false), jw_cd cd_65, fun _ _ => none) := rfl
/-- how much room cells take -/
def csz : jx_C → Nat
  | .inl x => x.2.1
  | .inr o => jw_ns o.1
def cvol (L : List jx_C) : Nat := (L.map csz).sum
/-- a cell of the class's that is there to stay: none of those in X -/
def zc (X : Nat → Prop) (a : Nat) : Prop := 50 ≤ a ∧ a < 4000000000 ∧ ¬ X a
/-- a String: one of the program's own, or a new one -/
def strR (h : jx_H) (x : Nat → Prop) (a : Nat) (s : List Int) : Prop := (∃ j, j < 20 ∧ a = jx_big + (9 + j) ∧ s = (jw_txL.getD j []).map Int32.toInt) ∨ (zc x a ∧ ∃ (b : Nat) (f : Nat → Value), zc x b ∧ h[a]? = some (.inr (9, [.ref b, .int (Int32.ofInt 0), .int (Int32.ofInt 0), .int (Int32.ofInt 0)])) ∧ h[b]? = some (.inl (3, s.length, f)) ∧ ∀ i, i < s.length → f i = .int (Int32.ofInt (s.getD i 0))) ∨ (zc x a ∧ s = [] ∧ h[a]? = some (.inr (9, [.ref (jx_big + 29), .int (Int32.ofInt 0), .int (Int32.ofInt 0), .int (Int32.ofInt 0)])))
theorem strR_fr {h h' : jx_H} {x x' : Nat → Prop} {a : Nat} {s : List Int} (hq : ∀ c y, zc x c → h[c]? = some y → zc x' c ∧ h'[c]? = some y) (hs : strR h x a s) : strR h' x' a s := by
  rcases hs with hs | ⟨h1, b, f, h2, h3, h4, h5⟩ | ⟨h1, h2, h3⟩
  · exact Or.inl hs
  · exact Or.inr (Or.inl ⟨(hq a _ h1 h3).1, b, f, (hq b _ h2 h4).1, (hq a _ h1 h3).2, (hq b _ h2 h4).2, h5⟩)
  · exact Or.inr (Or.inr ⟨(hq a _ h1 h3).1, h2, (hq a _ h1 h3).2⟩)
theorem ext_q {h : jx_H} {L : List jx_C} {x : Nat → Prop} : ∀ c y, zc x c → h[c]? = some y → zc x c ∧ (h ++ L)[c]? = some y := fun c y hz hy => ⟨hz, by rw [List.getElem?_append_left (List.getElem?_eq_some_iff.mp hy).1]; exact hy⟩
/-- the scratch text -/
def scP (κ : mS) (l : List Int) : Prop := κ 7 0 = l.length ∧ (∀ i : Nat, i < l.length → κ 8 i = l.getD i 0) ∧ ∀ c ∈ l, 1 ≤ c ∧ c ≤ 127
theorem scP_app {κ : mS} {l : List Int} {c : Int} (h : scP κ l) (hc : 1 ≤ c ∧ c ≤ 127) : scP (su (su κ 7 0 ((l.length : Int) + 1)) 8 (l.length : Int) c) (l ++ [c]) := by
  refine ⟨?_, fun i hi => ?_, fun x hx => ?_⟩
  · rw [su_nf (by decide), su_eq, List.length_append]
    simp
  · rw [List.length_append] at hi
    have hi : i < l.length + 1 := hi
    rw [List.getD_eq_getElem?_getD]
    by_cases e : i = l.length
    · subst e
      rw [su_eq]
      simp
    · rw [su_ni (by omega), su_nf (by decide), h.2.1 i (by omega), List.getElem?_append_left (by omega), List.getD_eq_getElem?_getD]
  · rcases List.mem_append.mp hx with hx | hx
    · exact h.2.2 x hx
    · rw [List.mem_singleton.mp hx]
      exact hc
theorem scP_q {κ κ' : mS} {l : List Int} (h : scP κ l) (h7 : κ' 7 = κ 7) (h8 : κ' 8 = κ 8) : scP κ' l := ⟨by rw [h7]; exact h.1, fun i hi => by rw [h8]; exact h.2.1 i hi, h.2.2⟩
theorem scP_b {κ : mS} {l : List Int} (h : scP κ l) : ∀ i : Int, 0 ≤ i → i < (l.length : Int) → 0 ≤ κ 8 i ∧ κ 8 i ≤ 127 := fun i i0 i1 => by
  have := h.2.1 i.toNat (by omega)
  rw [show ((i.toNat : Nat) : Int) = i by omega] at this
  have hm : l.getD i.toNat 0 ∈ l := by
    rw [List.getD_eq_getElem?_getD, List.getElem?_eq_getElem (by omega)]
    exact List.getElem_mem _
  have := h.2.2 _ hm
  omega
theorem scP_0 {κ : mS} (h : κ 7 0 = 0) : scP κ [] := ⟨h, fun i hi => absurd hi (by simp), fun c hc => absurd hc List.not_mem_nil⟩
/-- toString of the scratch text -/
theorem jc_scS {β : Bool} {d : Nat} {h : jx_H} {κ : mS} (hl : 50 ≤ h.length) {N : Nat} {x : Nat → Prop} (hN : h.length = N) (hb32 : N < 3000000000) (hx : ∀ a, N ≤ a → ¬ x a) {l : List Int} (hs : scP κ l) (hl7 : l.length ≤ 7) : ∃ L : List jx_C, jx_r (jz β) jw_M (d + 5) 73 (0, [some (.ref 3)], [], (cl_mk h κ)) (cl_mk (h ++ L) (κ), .inl (some (.ref (N)))) ∧ L.length = 2 ∧ cvol L ≤ 11 ∧ strR (h ++ L) x N l := by
  refine ⟨[.inr (9, [.ref (N + 1), .int (Int32.ofInt (0)), .int (Int32.ofInt (0)), .int (Int32.ofInt (0))]), .inl (3, ((l.length : Int)).toNat, va_cpy (fun i : Nat => .int (Int32.ofInt (κ 8 i))) (fun _ => .int 0) (0 : Int).toNat (0 : Int).toNat ((l.length : Int)).toNat)], jc_toS hl hN (by omega) hs.1 ⟨by omega, by omega⟩ (scP_b hs), rfl, ?_, Or.inr (Or.inl ⟨⟨by omega, by omega, hx _ (by omega)⟩, N + 1, va_cpy (fun i : Nat => .int (Int32.ofInt (κ 8 i))) (fun _ => .int 0) (0 : Int).toNat (0 : Int).toNat ((l.length : Int)).toNat, ⟨by omega, by omega, hx _ (by omega)⟩, ?_, ?_, fun i hi => ?_⟩)⟩
  · show 4 + ((l.length : Int).toNat + 0) ≤ 11
    omega
  · rw [List.getElem?_append_right (by omega), show N - h.length = 0 by omega]
    rfl
  · rw [List.getElem?_append_right (by omega), show N + 1 - h.length = 1 by omega]
    show some (Sum.inl (3, (l.length : Int).toNat, _)) = _
    rw [show (l.length : Int).toNat = l.length by omega]
  · unfold va_cpy
    rw [if_pos (by show (0 : Nat) ≤ i ∧ i < 0 + _; omega)]
    show Value.int (Int32.ofInt (κ 8 ((0 + (i - 0) : Nat) : Int))) = _
    rw [show 0 + (i - 0) = i by omega, hs.2.1 i hi]
theorem jc_ke_loop {β : Bool} {d : Nat} {h : jx_H} (hl : 50 ≤ h.length) {T : Int → Int} {n : Int} : ∀ (k : Nat) (l : List Int) (p : Int) (κ : mS), l.length + k = 7 → cP κ T n p → scP κ l → ∃ κ' : mS, (∀ res, jx_r (jz β) jw_M (d + 3) 98 (54, [some (.ref 1), some (.int (Int32.ofInt ((l.length : Int) + ((spn pL T n k p).length : Int))))], [], (cl_mk h κ')) res → jx_r (jz β) jw_M (d + 3) 98 (10, [some (.ref 1), some (.int (Int32.ofInt ((l.length : Int))))], [], (cl_mk h κ)) res) ∧ cP κ' T n (p + ((spn pL T n k p).length : Int)) ∧ scP κ' (l ++ spn pL T n k p) ∧ mEq [4, 7, 8] κ κ'
  | 0, l, p, κ, hlen, hP, hS => by
    refine ⟨κ, fun res kk => ?_, by show cP κ T n (p + ((0 : Nat) : Int)); rw [show p + ((0 : Nat) : Int) = p by omega]; exact hP, by show scP κ (l ++ []); rw [List.append_nil]; exact hS, mEq_refl _ _⟩
    have kk : jx_r (jz β) jw_M (d + 3) 98 (54, [some (.ref 1), some (.int (Int32.ofInt ((l.length : Int) + ((0 : Nat) : Int))))], [], (cl_mk h κ)) res := kk
    rw [show (l.length : Int) + ((0 : Nat) : Int) = l.length by omega] at kk
    refine jr_1 jm_98 (show jw_cd cd_98 10 = some (.iload_n 1) by decide +kernel) rfl ?_
    refine jr_1 jm_98 (show jw_cd cd_98 11 = some (.bipush 7) by decide +kernel) (mt_bi (by decide)) ?_
    refine jr_1 jm_98 (show jw_cd cd_98 13 = some (.if_icmp .ge 41) by decide +kernel) (mb_t (q := .ge) (a := (l.length : Int)) (b := 7) (t := 54) (by show 7 ≤ (l.length : Int); omega) ⟨by omega, by omega⟩ ⟨by omega, by omega⟩ (by decide) (by decide)) ?_
    exact kk
  | k + 1, l, p, κ, hlen, hP, hS => by
    obtain ⟨h0, hpn⟩ := hP.2.2.2
    have ht := hP.1.2.2
    have hn160 := ht.2.1
    have hh := tH_r (p := p) ht h0
    obtain ⟨hH1, hH, t0, t1⟩ := tC_H (p := p) ht h0
    have hiff := tC_is (p := p) ht h0 (a := 97) (b := 122) (by decide)
    by_cases hD : pL (tH T n p) = true
    · have hlt : p < n ∧ tC T n p = tH T n p ∧ 1 ≤ tC T n p := by
        have h1 := of_decide_eq_true hD
        have h2 := hH (by omega)
        exact ⟨h2.2, h2.1, by omega⟩
      obtain ⟨x1, x2, x3⟩ := hlt
      have hck : 97 ≤ tC T n p ∧ tC T n p ≤ 122 := hiff.mpr (of_decide_eq_true hD)
      have e4b : (su (su κ 7 0 ((l.length : Int) + 1)) 8 (l.length : Int) (tC T n p)) 4 0 = p := by rw [su_nf (by decide), su_nf (by decide)]; exact hP.2.1
      have hS2 := scP_app (c := tC T n p) hS ⟨x3, by omega⟩
      have hP2 : cP (su (su (su κ 7 0 ((l.length : Int) + 1)) 8 (l.length : Int) (tC T n p)) 4 0 (p + 1)) T n (p + 1) := cP_mv (cP_q hP (L := [7, 8]) (fun g hg => by simp only [List.mem_cons, List.mem_nil_iff, or_false] at hg; rw [su_row (by omega), su_row (by omega)]) (by decide)) (by omega) (by omega)
      have hl2 : (l ++ [tC T n p]).length = l.length + 1 := by rw [List.length_append]; rfl
      obtain ⟨κ', r1, r2, r3, r4⟩ := jc_ke_loop (β := β) (d := d) hl k (l ++ [tC T n p]) (p + 1) (su (su (su κ 7 0 ((l.length : Int) + 1)) 8 (l.length : Int) (tC T n p)) 4 0 (p + 1)) (by omega) hP2 (scP_q hS2 (su_row (by decide)) (su_row (by decide)))
      rw [spn_t hD, ← x2]
      refine ⟨κ', fun res kk => ?_, ?_, ?_, fun g hg => (r4 g hg).trans (by simp only [List.mem_cons, List.mem_nil_iff, or_false] at hg; rw [su_row (by omega), su_row (by omega), su_row (by omega)])⟩
      rotate_left
      · rw [show p + (((tC T n p :: spn pL T n k (p + 1)).length : Nat) : Int) = p + 1 + ((spn pL T n k (p + 1)).length : Int) by rw [List.length_cons]; omega]
        exact r2
      · rw [List.append_assoc] at r3
        exact r3
      have r1 := r1 res (by
        rw [hl2]
        rw [show ((l.length + 1 : Nat) : Int) + ((spn pL T n k (p + 1)).length : Int) = (l.length : Int) + (((tC T n p :: spn pL T n k (p + 1)).length : Nat) : Int) by rw [List.length_cons]; omega]
        exact kk)
      rw [hl2, show ((l.length + 1 : Nat) : Int) = (l.length : Int) + 1 by omega] at r1
      refine jr_1 jm_98 (show jw_cd cd_98 10 = some (.iload_n 1) by decide +kernel) rfl ?_
      refine jr_1 jm_98 (show jw_cd cd_98 11 = some (.bipush 7) by decide +kernel) (mt_bi (by decide)) ?_
      refine jr_1 jm_98 (show jw_cd cd_98 13 = some (.if_icmp .ge 41) by decide +kernel) (mb_f (q := .ge) (a := (l.length : Int)) (b := 7) (by show ¬ (7 ≤ (l.length : Int)); omega) ⟨by omega, by omega⟩ ⟨by omega, by omega⟩ (by decide)) ?_
      refine jr_1 jm_98 (show jw_cd cd_98 16 = some (.aload_n 0) by decide +kernel) rfl ?_
      refine jr_c jm_98 (show jw_cd cd_98 17 = some (.invokevirtual 36) by decide +kernel) (ccv (n := 0) (m2 := 58) (ci := 1) (a := 1) (bs := []) (r := []) (js_cls cl_c1 (by decide)) (show jw_find jw_cvT 2 36 = some (0, [(1, 58)]) by decide +kernel) (by decide) rfl rfl rfl) jm_58 ⟨Nat.le_of_ble_eq_true rfl, by decide⟩ (jc_here hl hP) ?_
      refine jr_c jm_98 (show jw_cd cd_98 20 = some (.invokestatic 43) by decide +kernel) (mc_s (n := 1) (m2 := 99) (bs := [.int (Int32.ofInt (tC T n p))]) (r := []) (by decide) (show jw_find jw_csT 2 43 = some (99, 1) by decide +kernel) rfl rfl rfl) jm_99 ⟨Nat.le_of_ble_eq_true rfl, by decide⟩ (jc_isK_t hl hck) ?_
      refine jr_1 jm_98 (show jw_cd cd_98 23 = some (.ifCond .eq 31) by decide +kernel) (mz_f (q := .eq) (a := 1) (by show ¬ (1 = 0); omega) ⟨by omega, by omega⟩ (by decide)) ?_
      refine jr_1 jm_98 (show jw_cd cd_98 26 = some (.aload_n 0) by decide +kernel) rfl ?_
      refine jr_1 jm_98 (show jw_cd cd_98 27 = some (.getfield 28) by decide +kernel) (cgr_1_4 (show jw_fld 2 28 1 = some 4 by decide +kernel)) ?_
      refine jr_1 jm_98 (show jw_cd cd_98 30 = some (.aload_n 0) by decide +kernel) rfl ?_
      refine jr_c jm_98 (show jw_cd cd_98 31 = some (.invokevirtual 36) by decide +kernel) (ccv (n := 0) (m2 := 58) (ci := 1) (a := 1) (bs := []) (r := [.ref 3]) (js_cls cl_c1 (by decide)) (show jw_find jw_cvT 2 36 = some (0, [(1, 58)]) by decide +kernel) (by decide) rfl rfl rfl) jm_58 ⟨Nat.le_of_ble_eq_true rfl, by decide⟩ (jc_here hl hP) ?_
      refine jr_c jm_98 (show jw_cd cd_98 34 = some (.invokevirtual 47) by decide +kernel) (ccv (n := 1) (m2 := 14) (ci := 2) (a := 3) (bs := [.int (Int32.ofInt (tC T n p))]) (r := []) (js_cls cl_c3 (by decide)) (show jw_find jw_cvT 2 47 = some (1, [(2, 14)]) by decide +kernel) (by decide) rfl rfl rfl) jm_14 ⟨Nat.le_of_ble_eq_true rfl, by decide⟩ (jc_app hl hS.1 ⟨by omega, by omega⟩ ⟨by omega, by omega⟩) ?_
      refine jr_1 jm_98 (show jw_cd cd_98 37 = some (.pop) by decide +kernel) rfl ?_
      refine jr_1 jm_98 (show jw_cd cd_98 38 = some (.aload_n 0) by decide +kernel) rfl ?_
      refine jr_1 jm_98 (show jw_cd cd_98 39 = some (.dup) by decide +kernel) rfl ?_
      refine jr_1 jm_98 (show jw_cd cd_98 40 = some (.getfield 19) by decide +kernel) (cg_4 (e := p) e4b (show jw_fld 2 19 1 = some 2 by decide +kernel)) ?_
      refine jr_1 jm_98 (show jw_cd cd_98 43 = some (.iconst 1) by decide +kernel) rfl ?_
      refine jr_1 jm_98 (show jw_cd cd_98 44 = some (.iadd) by decide +kernel) (mt_add (c := p + 1) rfl) ?_
      refine jr_1 jm_98 (show jw_cd cd_98 45 = some (.putfield 19) by decide +kernel) (cp_4 (x := p + 1) (show jw_fld 2 19 1 = some 2 by decide +kernel) (show jw_fm 2 1 2 = some false by decide +kernel)) ?_
      refine jr_1 jm_98 (F2 := (51, [some (.ref 1), some (.int (Int32.ofInt ((l.length : Int) + 1)))], [], (cl_mk h (su (su (su κ 7 0 ((l.length : Int) + 1)) 8 (l.length : Int) (tC T n p)) 4 (0) (p + 1))))) (show jw_cd cd_98 48 = some (.iinc 1 1) by decide +kernel) (mt_inc (a := (l.length : Int)) (c := (l.length : Int) + 1) rfl (by omega) rfl) ?_
      refine jr_1 jm_98 (show jw_cd cd_98 51 = some (.goto (-41)) by decide +kernel) (ju_go (t := 10) (by decide)) ?_
      exact r1
    · rw [spn_f hD]
      refine ⟨κ, fun res kk => ?_, by show cP κ T n (p + ((0 : Nat) : Int)); rw [show p + ((0 : Nat) : Int) = p by omega]; exact hP, by show scP κ (l ++ []); rw [List.append_nil]; exact hS, mEq_refl _ _⟩
      have kk : jx_r (jz β) jw_M (d + 3) 98 (54, [some (.ref 1), some (.int (Int32.ofInt ((l.length : Int) + ((0 : Nat) : Int))))], [], (cl_mk h κ)) res := kk
      rw [show (l.length : Int) + ((0 : Nat) : Int) = l.length by omega] at kk
      · skip
        refine jr_1 jm_98 (show jw_cd cd_98 10 = some (.iload_n 1) by decide +kernel) rfl ?_
        refine jr_1 jm_98 (show jw_cd cd_98 11 = some (.bipush 7) by decide +kernel) (mt_bi (by decide)) ?_
        refine jr_1 jm_98 (show jw_cd cd_98 13 = some (.if_icmp .ge 41) by decide +kernel) (mb_f (q := .ge) (a := (l.length : Int)) (b := 7) (by show ¬ (7 ≤ (l.length : Int)); omega) ⟨by omega, by omega⟩ ⟨by omega, by omega⟩ (by decide)) ?_
        refine jr_1 jm_98 (show jw_cd cd_98 16 = some (.aload_n 0) by decide +kernel) rfl ?_
        refine jr_c jm_98 (show jw_cd cd_98 17 = some (.invokevirtual 36) by decide +kernel) (ccv (n := 0) (m2 := 58) (ci := 1) (a := 1) (bs := []) (r := []) (js_cls cl_c1 (by decide)) (show jw_find jw_cvT 2 36 = some (0, [(1, 58)]) by decide +kernel) (by decide) rfl rfl rfl) jm_58 ⟨Nat.le_of_ble_eq_true rfl, by decide⟩ (jc_here hl hP) ?_
        refine jr_c jm_98 (show jw_cd cd_98 20 = some (.invokestatic 43) by decide +kernel) (mc_s (n := 1) (m2 := 99) (bs := [.int (Int32.ofInt (tC T n p))]) (r := []) (by decide) (show jw_find jw_csT 2 43 = some (99, 1) by decide +kernel) rfl rfl rfl) jm_99 ⟨Nat.le_of_ble_eq_true rfl, by decide⟩ (jc_isK_f hl ⟨t0, t1⟩ (fun z => hD (decide_eq_true (hiff.mp z)))) ?_
        refine jr_1 jm_98 (show jw_cd cd_98 23 = some (.ifCond .eq 31) by decide +kernel) (mz_t (q := .eq) (a := 0) (t := 54) (by show 0 = 0; omega) ⟨by omega, by omega⟩ (by decide) (by decide)) ?_
        exact kk
theorem jc_qu_loop {β : Bool} {d : Nat} {h : jx_H} (hl : 50 ≤ h.length) {T : Int → Int} {n : Int} : ∀ (k : Nat) (l : List Int) (p : Int) (κ : mS), l.length + k = 7 → cP κ T n p → scP κ l → ∃ κ' : mS, (∀ res, jx_r (jz β) jw_M (d + 3) 65 (60, [some (.ref 1), some (.int (Int32.ofInt ((l.length : Int) + ((spn pX T n k p).length : Int))))], [], (cl_mk h κ')) res → jx_r (jz β) jw_M (d + 3) 65 (10, [some (.ref 1), some (.int (Int32.ofInt ((l.length : Int))))], [], (cl_mk h κ)) res) ∧ cP κ' T n (p + ((spn pX T n k p).length : Int)) ∧ scP κ' (l ++ spn pX T n k p) ∧ mEq [4, 7, 8] κ κ'
  | 0, l, p, κ, hlen, hP, hS => by
    refine ⟨κ, fun res kk => ?_, by show cP κ T n (p + ((0 : Nat) : Int)); rw [show p + ((0 : Nat) : Int) = p by omega]; exact hP, by show scP κ (l ++ []); rw [List.append_nil]; exact hS, mEq_refl _ _⟩
    have kk : jx_r (jz β) jw_M (d + 3) 65 (60, [some (.ref 1), some (.int (Int32.ofInt ((l.length : Int) + ((0 : Nat) : Int))))], [], (cl_mk h κ)) res := kk
    rw [show (l.length : Int) + ((0 : Nat) : Int) = l.length by omega] at kk
    refine jr_1 jm_65 (show jw_cd cd_65 10 = some (.iload_n 1) by decide +kernel) rfl ?_
    refine jr_1 jm_65 (show jw_cd cd_65 11 = some (.bipush 7) by decide +kernel) (mt_bi (by decide)) ?_
    refine jr_1 jm_65 (show jw_cd cd_65 13 = some (.if_icmp .ge 47) by decide +kernel) (mb_t (q := .ge) (a := (l.length : Int)) (b := 7) (t := 60) (by show 7 ≤ (l.length : Int); omega) ⟨by omega, by omega⟩ ⟨by omega, by omega⟩ (by decide) (by decide)) ?_
    exact kk
  | k + 1, l, p, κ, hlen, hP, hS => by
    obtain ⟨h0, hpn⟩ := hP.2.2.2
    have ht := hP.1.2.2
    have hn160 := ht.2.1
    have hh := tH_r (p := p) ht h0
    obtain ⟨hH1, hH, t0, t1⟩ := tC_H (p := p) ht h0
    have hiff := tC_eq (p := p) ht h0 (c := 39) (by decide)
    by_cases hD : pX (tH T n p) = true
    · have hlt : p < n ∧ tC T n p = tH T n p ∧ 1 ≤ tC T n p := by
        have h1 := of_decide_eq_true hD
        have h2 := hH (by omega)
        exact ⟨h2.2, h2.1, by omega⟩
      obtain ⟨x1, x2, x3⟩ := hlt
      have hx1 := of_decide_eq_true hD
      have e4b : (su (su κ 7 0 ((l.length : Int) + 1)) 8 (l.length : Int) (tC T n p)) 4 0 = p := by rw [su_nf (by decide), su_nf (by decide)]; exact hP.2.1
      have hS2 := scP_app (c := tC T n p) hS ⟨x3, by omega⟩
      have hP2 : cP (su (su (su κ 7 0 ((l.length : Int) + 1)) 8 (l.length : Int) (tC T n p)) 4 0 (p + 1)) T n (p + 1) := cP_mv (cP_q hP (L := [7, 8]) (fun g hg => by simp only [List.mem_cons, List.mem_nil_iff, or_false] at hg; rw [su_row (by omega), su_row (by omega)]) (by decide)) (by omega) (by omega)
      have hl2 : (l ++ [tC T n p]).length = l.length + 1 := by rw [List.length_append]; rfl
      obtain ⟨κ', r1, r2, r3, r4⟩ := jc_qu_loop (β := β) (d := d) hl k (l ++ [tC T n p]) (p + 1) (su (su (su κ 7 0 ((l.length : Int) + 1)) 8 (l.length : Int) (tC T n p)) 4 0 (p + 1)) (by omega) hP2 (scP_q hS2 (su_row (by decide)) (su_row (by decide)))
      rw [spn_t hD, ← x2]
      refine ⟨κ', fun res kk => ?_, ?_, ?_, fun g hg => (r4 g hg).trans (by simp only [List.mem_cons, List.mem_nil_iff, or_false] at hg; rw [su_row (by omega), su_row (by omega), su_row (by omega)])⟩
      rotate_left
      · rw [show p + (((tC T n p :: spn pX T n k (p + 1)).length : Nat) : Int) = p + 1 + ((spn pX T n k (p + 1)).length : Int) by rw [List.length_cons]; omega]
        exact r2
      · rw [List.append_assoc] at r3
        exact r3
      have r1 := r1 res (by
        rw [hl2]
        rw [show ((l.length + 1 : Nat) : Int) + ((spn pX T n k (p + 1)).length : Int) = (l.length : Int) + (((tC T n p :: spn pX T n k (p + 1)).length : Nat) : Int) by rw [List.length_cons]; omega]
        exact kk)
      rw [hl2, show ((l.length + 1 : Nat) : Int) = (l.length : Int) + 1 by omega] at r1
      refine jr_1 jm_65 (show jw_cd cd_65 10 = some (.iload_n 1) by decide +kernel) rfl ?_
      refine jr_1 jm_65 (show jw_cd cd_65 11 = some (.bipush 7) by decide +kernel) (mt_bi (by decide)) ?_
      refine jr_1 jm_65 (show jw_cd cd_65 13 = some (.if_icmp .ge 47) by decide +kernel) (mb_f (q := .ge) (a := (l.length : Int)) (b := 7) (by show ¬ (7 ≤ (l.length : Int)); omega) ⟨by omega, by omega⟩ ⟨by omega, by omega⟩ (by decide)) ?_
      refine jr_1 jm_65 (show jw_cd cd_65 16 = some (.aload_n 0) by decide +kernel) rfl ?_
      refine jr_c jm_65 (show jw_cd cd_65 17 = some (.invokevirtual 36) by decide +kernel) (ccv (n := 0) (m2 := 58) (ci := 1) (a := 1) (bs := []) (r := []) (js_cls cl_c1 (by decide)) (show jw_find jw_cvT 2 36 = some (0, [(1, 58)]) by decide +kernel) (by decide) rfl rfl rfl) jm_58 ⟨Nat.le_of_ble_eq_true rfl, by decide⟩ (jc_here hl hP) ?_
      refine jr_1 jm_65 (show jw_cd cd_65 20 = some (.bipush 39) by decide +kernel) (mt_bi (by decide)) ?_
      refine jr_1 jm_65 (show jw_cd cd_65 22 = some (.if_icmp .eq 38) by decide +kernel) (mb_f (q := .eq) (a := tC T n p) (b := 39) (by show ¬ (tC T n p = 39); omega) ⟨by omega, by omega⟩ ⟨by omega, by omega⟩ (by decide)) ?_
      refine jr_1 jm_65 (show jw_cd cd_65 25 = some (.aload_n 0) by decide +kernel) rfl ?_
      refine jr_c jm_65 (show jw_cd cd_65 26 = some (.invokevirtual 36) by decide +kernel) (ccv (n := 0) (m2 := 58) (ci := 1) (a := 1) (bs := []) (r := []) (js_cls cl_c1 (by decide)) (show jw_find jw_cvT 2 36 = some (0, [(1, 58)]) by decide +kernel) (by decide) rfl rfl rfl) jm_58 ⟨Nat.le_of_ble_eq_true rfl, by decide⟩ (jc_here hl hP) ?_
      refine jr_1 jm_65 (show jw_cd cd_65 29 = some (.ifCond .eq 31) by decide +kernel) (mz_f (q := .eq) (a := tC T n p) (by show ¬ (tC T n p = 0); omega) ⟨by omega, by omega⟩ (by decide)) ?_
      refine jr_1 jm_65 (show jw_cd cd_65 32 = some (.aload_n 0) by decide +kernel) rfl ?_
      refine jr_1 jm_65 (show jw_cd cd_65 33 = some (.getfield 28) by decide +kernel) (cgr_1_4 (show jw_fld 2 28 1 = some 4 by decide +kernel)) ?_
      refine jr_1 jm_65 (show jw_cd cd_65 36 = some (.aload_n 0) by decide +kernel) rfl ?_
      refine jr_c jm_65 (show jw_cd cd_65 37 = some (.invokevirtual 36) by decide +kernel) (ccv (n := 0) (m2 := 58) (ci := 1) (a := 1) (bs := []) (r := [.ref 3]) (js_cls cl_c1 (by decide)) (show jw_find jw_cvT 2 36 = some (0, [(1, 58)]) by decide +kernel) (by decide) rfl rfl rfl) jm_58 ⟨Nat.le_of_ble_eq_true rfl, by decide⟩ (jc_here hl hP) ?_
      refine jr_c jm_65 (show jw_cd cd_65 40 = some (.invokevirtual 47) by decide +kernel) (ccv (n := 1) (m2 := 14) (ci := 2) (a := 3) (bs := [.int (Int32.ofInt (tC T n p))]) (r := []) (js_cls cl_c3 (by decide)) (show jw_find jw_cvT 2 47 = some (1, [(2, 14)]) by decide +kernel) (by decide) rfl rfl rfl) jm_14 ⟨Nat.le_of_ble_eq_true rfl, by decide⟩ (jc_app hl hS.1 ⟨by omega, by omega⟩ ⟨by omega, by omega⟩) ?_
      refine jr_1 jm_65 (show jw_cd cd_65 43 = some (.pop) by decide +kernel) rfl ?_
      refine jr_1 jm_65 (show jw_cd cd_65 44 = some (.aload_n 0) by decide +kernel) rfl ?_
      refine jr_1 jm_65 (show jw_cd cd_65 45 = some (.dup) by decide +kernel) rfl ?_
      refine jr_1 jm_65 (show jw_cd cd_65 46 = some (.getfield 19) by decide +kernel) (cg_4 (e := p) e4b (show jw_fld 2 19 1 = some 2 by decide +kernel)) ?_
      refine jr_1 jm_65 (show jw_cd cd_65 49 = some (.iconst 1) by decide +kernel) rfl ?_
      refine jr_1 jm_65 (show jw_cd cd_65 50 = some (.iadd) by decide +kernel) (mt_add (c := p + 1) rfl) ?_
      refine jr_1 jm_65 (show jw_cd cd_65 51 = some (.putfield 19) by decide +kernel) (cp_4 (x := p + 1) (show jw_fld 2 19 1 = some 2 by decide +kernel) (show jw_fm 2 1 2 = some false by decide +kernel)) ?_
      refine jr_1 jm_65 (F2 := (57, [some (.ref 1), some (.int (Int32.ofInt ((l.length : Int) + 1)))], [], (cl_mk h (su (su (su κ 7 0 ((l.length : Int) + 1)) 8 (l.length : Int) (tC T n p)) 4 (0) (p + 1))))) (show jw_cd cd_65 54 = some (.iinc 1 1) by decide +kernel) (mt_inc (a := (l.length : Int)) (c := (l.length : Int) + 1) rfl (by omega) rfl) ?_
      refine jr_1 jm_65 (show jw_cd cd_65 57 = some (.goto (-47)) by decide +kernel) (ju_go (t := 10) (by decide)) ?_
      exact r1
    · rw [spn_f hD]
      refine ⟨κ, fun res kk => ?_, by show cP κ T n (p + ((0 : Nat) : Int)); rw [show p + ((0 : Nat) : Int) = p by omega]; exact hP, by show scP κ (l ++ []); rw [List.append_nil]; exact hS, mEq_refl _ _⟩
      have kk : jx_r (jz β) jw_M (d + 3) 65 (60, [some (.ref 1), some (.int (Int32.ofInt ((l.length : Int) + ((0 : Nat) : Int))))], [], (cl_mk h κ)) res := kk
      rw [show (l.length : Int) + ((0 : Nat) : Int) = l.length by omega] at kk
      by_cases h39 : tC T n p = 39
      · skip
        refine jr_1 jm_65 (show jw_cd cd_65 10 = some (.iload_n 1) by decide +kernel) rfl ?_
        refine jr_1 jm_65 (show jw_cd cd_65 11 = some (.bipush 7) by decide +kernel) (mt_bi (by decide)) ?_
        refine jr_1 jm_65 (show jw_cd cd_65 13 = some (.if_icmp .ge 47) by decide +kernel) (mb_f (q := .ge) (a := (l.length : Int)) (b := 7) (by show ¬ (7 ≤ (l.length : Int)); omega) ⟨by omega, by omega⟩ ⟨by omega, by omega⟩ (by decide)) ?_
        refine jr_1 jm_65 (show jw_cd cd_65 16 = some (.aload_n 0) by decide +kernel) rfl ?_
        refine jr_c jm_65 (show jw_cd cd_65 17 = some (.invokevirtual 36) by decide +kernel) (ccv (n := 0) (m2 := 58) (ci := 1) (a := 1) (bs := []) (r := []) (js_cls cl_c1 (by decide)) (show jw_find jw_cvT 2 36 = some (0, [(1, 58)]) by decide +kernel) (by decide) rfl rfl rfl) jm_58 ⟨Nat.le_of_ble_eq_true rfl, by decide⟩ (jc_here hl hP) ?_
        refine jr_1 jm_65 (show jw_cd cd_65 20 = some (.bipush 39) by decide +kernel) (mt_bi (by decide)) ?_
        refine jr_1 jm_65 (show jw_cd cd_65 22 = some (.if_icmp .eq 38) by decide +kernel) (mb_t (q := .eq) (a := tC T n p) (b := 39) (t := 60) (by show tC T n p = 39; omega) ⟨by omega, by omega⟩ ⟨by omega, by omega⟩ (by decide) (by decide)) ?_
        exact kk
      · have hx : ¬ (¬ tH T n p = -1 ∧ ¬ tH T n p = 39) := fun z => hD (decide_eq_true z)
        have hx0 : tC T n p = 0 := hH1 (by omega)
        refine jr_1 jm_65 (show jw_cd cd_65 10 = some (.iload_n 1) by decide +kernel) rfl ?_
        refine jr_1 jm_65 (show jw_cd cd_65 11 = some (.bipush 7) by decide +kernel) (mt_bi (by decide)) ?_
        refine jr_1 jm_65 (show jw_cd cd_65 13 = some (.if_icmp .ge 47) by decide +kernel) (mb_f (q := .ge) (a := (l.length : Int)) (b := 7) (by show ¬ (7 ≤ (l.length : Int)); omega) ⟨by omega, by omega⟩ ⟨by omega, by omega⟩ (by decide)) ?_
        refine jr_1 jm_65 (show jw_cd cd_65 16 = some (.aload_n 0) by decide +kernel) rfl ?_
        refine jr_c jm_65 (show jw_cd cd_65 17 = some (.invokevirtual 36) by decide +kernel) (ccv (n := 0) (m2 := 58) (ci := 1) (a := 1) (bs := []) (r := []) (js_cls cl_c1 (by decide)) (show jw_find jw_cvT 2 36 = some (0, [(1, 58)]) by decide +kernel) (by decide) rfl rfl rfl) jm_58 ⟨Nat.le_of_ble_eq_true rfl, by decide⟩ (jc_here hl hP) ?_
        refine jr_1 jm_65 (show jw_cd cd_65 20 = some (.bipush 39) by decide +kernel) (mt_bi (by decide)) ?_
        refine jr_1 jm_65 (show jw_cd cd_65 22 = some (.if_icmp .eq 38) by decide +kernel) (mb_f (q := .eq) (a := tC T n p) (b := 39) (by show ¬ (tC T n p = 39); omega) ⟨by omega, by omega⟩ ⟨by omega, by omega⟩ (by decide)) ?_
        refine jr_1 jm_65 (show jw_cd cd_65 25 = some (.aload_n 0) by decide +kernel) rfl ?_
        refine jr_c jm_65 (show jw_cd cd_65 26 = some (.invokevirtual 36) by decide +kernel) (ccv (n := 0) (m2 := 58) (ci := 1) (a := 1) (bs := []) (r := []) (js_cls cl_c1 (by decide)) (show jw_find jw_cvT 2 36 = some (0, [(1, 58)]) by decide +kernel) (by decide) rfl rfl rfl) jm_58 ⟨Nat.le_of_ble_eq_true rfl, by decide⟩ (jc_here hl hP) ?_
        refine jr_1 jm_65 (show jw_cd cd_65 29 = some (.ifCond .eq 31) by decide +kernel) (mz_t (q := .eq) (a := tC T n p) (t := 60) (by show tC T n p = 0; omega) ⟨by omega, by omega⟩ (by decide) (by decide)) ?_
        exact kk
