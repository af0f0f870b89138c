/-! ===== the class: readSide, the path (printed by program: gen106.py) ===== -/
theorem jm_145 : jw_M 145 = some (7, 3, ((Option.some (Jvm.ClassFile.FieldType.object "PickDesk$Side")), false), jw_cd cd_145, fun _ _ => none) := rfl
theorem jc_sdJ {β : Bool} {d : Nat} {h : jx_H} {κ : mS} (hl : 50 ≤ h.length) {N : Nat} (hN : h.length = N) (hb32 : N < 3000000000) {a v : Nat} (ha : 50 ≤ a ∧ a < 4000000000) (hA : h[a]? = some (.inr (15, [.null, .null, .int (Int32.ofInt (0))]))) : ∃ h' : jx_H, jx_r (jz β) jw_M (d) 146 (0, [some (.ref a), some (.ref v)], [], (cl_mk h κ)) (cl_mk h' (κ), .inl none) ∧ h'[a]? = some (.inr (15, [.ref v, .ref N, .int (Int32.ofInt (0))])) ∧ h'[N]? = some (.inl (4, 0, fun _ => .null)) ∧ (∀ (c : Nat) (y : jx_C), ¬ c = a → h[c]? = some y → h'[c]? = some y) ∧ h'.length = N + 1 ∧ cvol h' = cvol h + 0 := by
  have hal := (List.getElem?_eq_some_iff.mp hA).1
  obtain ⟨h1, eh1⟩ : ∃ h1, h1 = List.set h a (.inr (15, [.ref v, .null, .int (Int32.ofInt (0))])) := ⟨_, rfl⟩
  have hN1 : h1.length = N := by rw [eh1, List.length_set]; exact hN
  have hl1 : 50 ≤ h1.length := by omega
  have hA1 : h1[a]? = some (.inr (15, [.ref v, .null, .int (Int32.ofInt (0))])) := by rw [eh1]; exact js_set_eq hA
  have v1 : cvol h1 = cvol h := by rw [eh1]; exact cvol_sO hA
  have f1 : ∀ (c : Nat) (y : jx_C), ¬ c = a → h[c]? = some y → h1[c]? = some y := fun c y hc hy => by rw [eh1]; exact (js_set_ne (fun e => hc e.symm)).trans hy
  obtain ⟨h2, eh2⟩ : ∃ h2, h2 = List.set (h1 ++ [.inl (4, 0, fun _ => .null)]) a (.inr (15, [.ref v, .ref N, .int (Int32.ofInt (0))])) := ⟨_, rfl⟩
  have hA10 : (h1 ++ [.inl (4, 0, fun _ => .null)])[a]? = some (.inr (15, [.ref v, .null, .int (Int32.ofInt (0))])) := by rw [List.getElem?_append_left (by omega)]; exact hA1
  have hN2 : h2.length = N + 1 := by rw [eh2, List.length_set, List.length_append, hN1]; rfl
  have hl2 : 50 ≤ h2.length := by omega
  have hA2 : h2[a]? = some (.inr (15, [.ref v, .ref N, .int (Int32.ofInt (0))])) := by rw [eh2]; exact js_set_eq hA10
  have v2 : cvol h2 = cvol h + 0 := by rw [eh2, cvol_sO hA10, cvol_app, v1]; rfl
  have r2 : h2[N]? = some (.inl (4, 0, fun _ => .null)) := by
    rw [eh2, js_set_ne (by omega), ← hN1, List.getElem?_append_right (Nat.le_refl _), Nat.sub_self]
    rfl
  have f2 : ∀ (c : Nat) (y : jx_C), ¬ c = a → h[c]? = some y → h2[c]? = some y := fun c y hc hy => by
    have := f1 c y hc hy
    rw [eh2, js_set_ne (fun e => hc e.symm), List.getElem?_append_left (List.getElem?_eq_some_iff.mp this).1]
    exact this
  refine ⟨List.set h2 a (.inr (15, [.ref v, .ref N, .int (Int32.ofInt (0))])), ?_, js_set_eq hA2, (js_set_ne (by omega)).trans r2, fun c y hc hy => (js_set_ne (fun e => hc e.symm)).trans (f2 c y hc hy), by rw [List.length_set]; exact hN2, by rw [cvol_sO hA2]; exact v2⟩
  refine jr_1 jm_146 (show jw_cd cd_146 0 = some (.aload_n 0) by decide +kernel) rfl ?_
  refine jr_1 jm_146 (show jw_cd cd_146 1 = some (.invokespecial 3) by decide +kernel) (coi rfl rfl) ?_
  refine jr_1 jm_146 (show jw_cd cd_146 4 = some (.aload_n 0) by decide +kernel) rfl ?_
  refine jr_1 jm_146 (show jw_cd cd_146 5 = some (.aload_n 1) by decide +kernel) rfl ?_
  refine jr_1 jm_146 (F2 := (9, [some (.ref a), some (.ref v)], [], (cl_mk (List.set h a (.inr (15, [.ref v, .null, .int (Int32.ofInt (0))]))) κ))) (show jw_cd cd_146 6 = some (.putfield 9) by decide +kernel) (cpf (cl_old hl ⟨by omega, hA⟩) (jbg (by omega)) (show jw_fld 31 9 15 = some 0 by decide +kernel) (show jw_ft 15 0 = some (.object "PickDesk$Value") from rfl) (show jw_fm 31 15 0 = some true by decide +kernel) rfl rfl (cl_set (by omega) (by omega))) ?_
  rw [← eh1]
  refine jr_1 jm_146 (show jw_cd cd_146 9 = some (.aload_n 0) by decide +kernel) rfl ?_
  refine jr_1 jm_146 (show jw_cd cd_146 10 = some (.aload_n 1) by decide +kernel) rfl ?_
  refine jr_1 jm_146 (show jw_cd cd_146 11 = some (.ifnonnull 7) by decide +kernel) (cnn_r (t := 18) (by decide) (by decide)) ?_
  refine jr_1 jm_146 (show jw_cd cd_146 18 = some (.iconst 0) by decide +kernel) rfl ?_
  refine jr_1 jm_146 (F2 := (22, [some (.ref a), some (.ref v)], [.ref N, .ref a], (cl_mk (h1 ++ [.inl (4, 0, fun _ => .null)]) κ))) (show jw_cd cd_146 19 = some (.anewarray 15) by decide +kernel) (cna_r0 hl1 hN1 (by omega) (by omega) (by omega) (show jw_find jw_anT 31 15 = some 4 by decide +kernel)) ?_
  refine jr_1 jm_146 (F2 := (25, [some (.ref a), some (.ref v)], [], (cl_mk (List.set (h1 ++ [.inl (4, 0, fun _ => .null)]) a (.inr (15, [.ref v, .ref N, .int (Int32.ofInt (0))]))) κ))) (show jw_cd cd_146 22 = some (.putfield 17) by decide +kernel) (cpf (ap_old hl1 ⟨by omega, hA1⟩) (jbg (by omega)) (show jw_fld 31 17 15 = some 1 by decide +kernel) (show jw_ft 15 1 = some (.array (.object "PickDesk$Value")) from rfl) (show jw_fm 31 15 1 = some true by decide +kernel) rfl rfl (cl_set (by rw [List.length_append]; omega) (by omega))) ?_
  rw [← eh2]
  refine jr_1 jm_146 (show jw_cd cd_146 25 = some (.aload_n 0) by decide +kernel) rfl ?_
  refine jr_1 jm_146 (show jw_cd cd_146 26 = some (.iconst 0) by decide +kernel) rfl ?_
  refine jr_1 jm_146 (F2 := (30, [some (.ref a), some (.ref v)], [], (cl_mk (List.set h2 a (.inr (15, [.ref v, .ref N, .int (Int32.ofInt (0))]))) κ))) (show jw_cd cd_146 27 = some (.putfield 21) by decide +kernel) (cpf (cl_old hl2 ⟨by omega, hA2⟩) (jbg (by omega)) (show jw_fld 31 21 15 = some 2 by decide +kernel) (show jw_ft 15 2 = some (.int) from rfl) (show jw_fm 31 15 2 = some false by decide +kernel) rfl rfl (cl_set (by omega) (by omega))) ?_
  exact jr_v jm_146 (show jw_cd cd_146 30 = some (.return_) by decide +kernel) rfl
theorem jc_numU {β : Bool} {d : Nat} {h : jx_H} {κ : mS} (hl : 50 ≤ h.length) {T : Int → Int} {n p : Int} (hP : cP κ T n p) : ∃ (κ' : mS) (x : Int), jx_r (jz β) jw_M (d + 1) 60 (0, [some (.ref 1), none, none, none], [], (cl_mk h κ)) (cl_mk h (κ'), .inl (some (.int (Int32.ofInt (x))))) ∧ mr x ∧ mEq [4, 5] κ κ' ∧ (∀ x' q, sNum T n p = .inr (x', q) → x = x' ∧ cP κ' T n q) ∧ (∀ e, sNum T n p = .inl e → cE κ' T n e) := by
  obtain ⟨a, b⟩ := jc_num (β := β) (d := d) hl hP
  cases hs : sNum T n p with
  | inl e =>
    obtain ⟨κ', x, r1, r2, r3, r4⟩ := b e hs
    exact ⟨κ', x, r1, r4, r3, fun x' q z => (by cases z), fun e' z => by injection z with z; rw [← z]; exact r2⟩
  | inr y =>
    obtain ⟨x, q⟩ := y
    obtain ⟨κ', r1, r2, r3⟩ := a x q hs
    have hx := (sNum_R (T := T) (n := n) (p := p) hP.1.2.2 hP.2.2.2.1 hP.2.2.2.2).2 x q hs
    refine ⟨κ', x, r1, ⟨by omega, by omega⟩, mEq_sub r3 (by decide), fun x' q' z => ?_, fun e z => (by cases z)⟩
    injection z with z
    injection z with z1 z2
    rw [← z2]
    exact ⟨z1, r2⟩
/-- a side that keys come to -/
def dX (X : Nat → Prop) (sa ra : Nat) : Nat → Prop := fun c => X c ∨ c = sa ∨ c = ra
def sdU (h : jx_H) (X : Nat → Prop) (N0 sa ra : Nat) (g : Nat → Value) (ks : List (List Int)) : Prop := (50 ≤ N0 ∧ N0 ≤ sa ∧ N0 ≤ ra ∧ ¬ ra = sa ∧ sa < 4000000000 ∧ ra < 4000000000) ∧ (∀ c, N0 ≤ c → ¬ X c) ∧ h[sa]? = some (.inr (15, [.null, .ref ra, .int (Int32.ofInt (((ks.length : Nat) : Int)))])) ∧ h[ra]? = some (.inl (4, 3, g)) ∧ ks.length ≤ 3 ∧ ksR h (dX X sa ra) g ks
theorem dX_o {X : Nat → Prop} {sa ra c : Nat} (h : ¬ dX X sa ra c) : ¬ X c ∧ ¬ c = sa ∧ ¬ c = ra := ⟨fun z => h (Or.inl z), fun z => h (Or.inr (Or.inl z)), fun z => h (Or.inr (Or.inr z))⟩
theorem sdU_fr {h h' : jx_H} {X : Nat → Prop} {N0 sa ra : Nat} {g : Nat → Value} {ks : List (List Int)} (hq : ∀ (c : Nat) (y : jx_C), h[c]? = some y → h'[c]? = some y) (hU : sdU h X N0 sa ra g ks) : sdU h' X N0 sa ra g ks := by
  obtain ⟨u1, u2, u3, u4, u5, u6⟩ := hU
  exact ⟨u1, u2, hq _ _ u3, hq _ _ u4, u5, ksR_fr (fun c y z hy => ⟨z, hq c y hy⟩) u6⟩
theorem sdU_done {h : jx_H} {X : Nat → Prop} {N0 sa ra : Nat} {g : Nat → Value} {ks : List (List Int)} (hU : sdU h X N0 sa ra g ks) : cdR h X sa (1, 0, [], ks) := by
  obtain ⟨u1, u2, u3, u4, u5, u6⟩ := hU
  exact ⟨⟨by omega, by omega, u2 _ u1.2.1⟩, ra, 3, g, .null, ⟨by omega, by omega, u2 _ u1.2.2.1⟩, u3, u4, Or.inl ⟨rfl, rfl, rfl, u5, ksR_fr (fun c y z hy => ⟨⟨z.1, z.2.1, (dX_o z.2.2).1⟩, hy⟩) u6⟩⟩
theorem jc_sdAdd {β : Bool} {d : Nat} {h : jx_H} {κ : mS} (hl : 50 ≤ h.length) {X : Nat → Prop} {N0 sa ra b : Nat} {g : Nat → Value} {ks : List (List Int)} {s : List Int} (hU : sdU h X N0 sa ra g ks) (h3 : ks.length < 3) (hb : vNd h (dX X sa ra) b (4, 0, s, []) 0 vT0) : ∃ (h' : jx_H) (g' : Nat → Value), jx_r (jz β) jw_M (d) 147 (0, [some (.ref sa), some (.ref b)], [], (cl_mk h κ)) (cl_mk h' (κ), .inl none) ∧ sdU h' X N0 sa ra g' (ks ++ [s]) ∧ (∀ (c : Nat) (y : jx_C), ¬ c = sa → ¬ c = ra → h[c]? = some y → h'[c]? = some y) ∧ h'.length = h.length ∧ cvol h' = cvol h := by
  obtain ⟨u1, u2, u3, u4, u5, u6⟩ := hU
  have hr := jc_sdA0 (β := β) (d := d) (κ := κ) (v := b) hl ⟨by omega, by omega⟩ ⟨by omega, by omega⟩ u1.2.2.2.1 u3 u4 h3 (vN_cls hl hb)
  have hA1 := (js_set_ne (x := .inl (4, 3, updV g (((ks.length : Nat) : Int)).toNat (.ref b))) u1.2.2.2.1).trans u3
  have hfr : ∀ (c : Nat) (y : jx_C), ¬ c = sa → ¬ c = ra → h[c]? = some y → (List.set (List.set h ra (.inl (4, 3, updV g (((ks.length : Nat) : Int)).toNat (.ref b)))) sa (.inr (15, [.null, .ref ra, .int (Int32.ofInt (((ks.length : Nat) : Int) + 1))])))[c]? = some y := fun c y c1 c2 hy => by
    rw [js_set_ne (fun e => c1 e.symm), js_set_ne (fun e => c2 e.symm)]
    exact hy
  refine ⟨_, updV g (((ks.length : Nat) : Int)).toNat (.ref b), hr, ⟨u1, u2, ?_, ?_, ?_, fun i t hi => ?_⟩, hfr, by rw [List.length_set, List.length_set], by rw [cvol_sO hA1, cvol_sA u4]⟩
  · rw [js_set_eq hA1, List.length_append, show (((ks.length + [s].length : Nat)) : Int) = ((ks.length : Nat) : Int) + 1 from rfl]
  · rw [js_set_ne (fun e => u1.2.2.2.1 e.symm)]
    exact js_set_eq u4
  · rw [List.length_append]
    show ks.length + 1 ≤ 3
    omega
  · have fr : ∀ (c : Nat) (y : jx_C), zc (dX X sa ra) c → h[c]? = some y → zc (dX X sa ra) c ∧ _ := fun c y z hy => ⟨z, hfr c y (dX_o z.2.2).2.1 (dX_o z.2.2).2.2 hy⟩
    rw [Int.toNat_natCast]
    by_cases hik : i < ks.length
    · rw [List.getElem?_append_left hik] at hi
      obtain ⟨b', b1, b2⟩ := u6 i t hi
      exact ⟨b', by rw [updV_ne _ _ (by omega)]; exact b1, vNd_fr fr (fun _ _ z => z) b2⟩
    · rw [List.getElem?_append_right (by omega)] at hi
      have hi0 : i - ks.length = 0 := by
        have := (List.getElem?_eq_some_iff.mp hi).1
        simp only [List.length_cons, List.length_nil] at this
        omega
      rw [hi0] at hi
      injection hi with hi
      obtain rfl : i = ks.length := by omega
      refine ⟨b, updV_at _ _ _, ?_⟩
      rw [← hi]
      exact vNd_fr fr (fun _ _ z => z) hb
theorem jc_sdW {β : Bool} {d : Nat} {h : jx_H} {κ : mS} (hl : 50 ≤ h.length) {i sa : Nat} {e : Int} (hi : i < 100) (hW : cW κ e) : jx_r (jz β) jw_M (d + 2) 145 (98, [some (.ref 6), some (.ref sa), some (.int (Int32.ofInt (((i : Nat) : Int))))], [], (cl_mk h κ)) (cl_mk h (κ), .inl (some (.ref (sa)))) := by
  by_cases h4 : 3 < i
  · refine jr_1 jm_145 (show jw_cd cd_145 98 = some (.iload_n 2) by decide +kernel) rfl ?_
    refine jr_1 jm_145 (show jw_cd cd_145 99 = some (.iconst 3) by decide +kernel) rfl ?_
    refine jr_1 jm_145 (show jw_cd cd_145 100 = some (.if_icmp .gt 56) by decide +kernel) (mb_t (q := .gt) (a := ((i : Nat) : Int)) (b := 3) (t := 156) (by show 3 < ((i : Nat) : Int); omega) ⟨by omega, by omega⟩ ⟨by omega, by omega⟩ (by decide) (by decide)) ?_
    refine jr_1 jm_145 (show jw_cd cd_145 156 = some (.aload_n 1) by decide +kernel) rfl ?_
    exact jr_v jm_145 (show jw_cd cd_145 157 = some (.areturn) by decide +kernel) rfl
  · refine jr_1 jm_145 (show jw_cd cd_145 98 = some (.iload_n 2) by decide +kernel) rfl ?_
    refine jr_1 jm_145 (show jw_cd cd_145 99 = some (.iconst 3) by decide +kernel) rfl ?_
    refine jr_1 jm_145 (show jw_cd cd_145 100 = some (.if_icmp .gt 56) by decide +kernel) (mb_f (q := .gt) (a := ((i : Nat) : Int)) (b := 3) (by show ¬ (3 < ((i : Nat) : Int)); omega) ⟨by omega, by omega⟩ ⟨by omega, by omega⟩ (by decide)) ?_
    refine jr_1 jm_145 (show jw_cd cd_145 103 = some (.aload_n 0) by decide +kernel) rfl ?_
    refine jr_1 jm_145 (show jw_cd cd_145 104 = some (.getfield 9) by decide +kernel) (cgr_6_0 (show jw_fld 7 9 4 = some 0 by decide +kernel)) ?_
    refine jr_1 jm_145 (show jw_cd cd_145 107 = some (.bipush 46) by decide +kernel) (mt_bi (by decide)) ?_
    refine jr_c jm_145 (show jw_cd cd_145 109 = some (.invokevirtual 36) by decide +kernel) (ccv (n := 1) (m2 := 64) (ci := 1) (a := 1) (bs := [.int (Int32.ofInt (46))]) (r := []) (js_cls cl_c1 (by decide)) (show jw_find jw_cvT 7 36 = some (1, [(1, 64)]) by decide +kernel) (by decide) rfl rfl rfl) jm_64 ⟨Nat.le_of_ble_eq_true rfl, by decide⟩ (jc_takeW hl hW (by decide)) ?_
    refine jr_1 jm_145 (show jw_cd cd_145 112 = some (.ifCond .eq 44) by decide +kernel) (mz_t (q := .eq) (a := 0) (t := 156) (by show 0 = 0; omega) ⟨by omega, by omega⟩ (by decide) (by decide)) ?_
    refine jr_1 jm_145 (show jw_cd cd_145 156 = some (.aload_n 1) by decide +kernel) rfl ?_
    exact jr_v jm_145 (show jw_cd cd_145 157 = some (.areturn) by decide +kernel) rfl
/-- a key is read and comes to the side -/
theorem jc_sdKey {β : Bool} {d : Nat} {h h1 h2 h3 : jx_H} {κk κ1 : mS} {sa ra i N sz : Nat} (hsa : 50 ≤ sa ∧ sa < 4000000000) (hl2 : 50 ≤ h2.length) (hi : i < 100) (uA : h2[sa]? = some (.inr (15, [.null, .ref ra, .int (Int32.ofInt (((sz : Nat) : Int)))]))) (hr1 : jx_r (jz β) jw_M (d) 98 (0, [some (.ref 1), none], [], (cl_mk h κk)) (cl_mk h1 (κ1), .inl (some (.ref (N))))) (hr2 : jx_r (jz β) jw_M (d) 91 (0, [some (.ref N)], [], (cl_mk h1 κ1)) (cl_mk h2 (κ1), .inl (some (.ref (N + 2))))) (hr3 : jx_r (jz β) jw_M (d) 147 (0, [some (.ref sa), some (.ref (N + 2))], [], (cl_mk h2 κ1)) (cl_mk h3 (κ1), .inl none)) {res : jx_H × (Option Value ⊕ Nat)} (kk : jx_r (jz β) jw_M (d + 1) 145 (98, [some (.ref 6), some (.ref sa), some (.int (Int32.ofInt (((i + 1 : Nat) : Int))))], [], (cl_mk h3 κ1)) res) : jx_r (jz β) jw_M (d + 1) 145 (136, [some (.ref 6), some (.ref sa), some (.int (Int32.ofInt (((i : Nat) : Int))))], [], (cl_mk h κk)) res := by
  refine jr_1 jm_145 (show jw_cd cd_145 136 = some (.aload_n 1) by decide +kernel) rfl ?_
  refine jr_1 jm_145 (show jw_cd cd_145 137 = some (.aload_n 0) by decide +kernel) rfl ?_
  refine jr_1 jm_145 (show jw_cd cd_145 138 = some (.getfield 9) by decide +kernel) (cgr_6_0 (show jw_fld 7 9 4 = some 0 by decide +kernel)) ?_
  refine jr_c jm_145 (show jw_cd cd_145 141 = some (.invokevirtual 77) by decide +kernel) (ccv (n := 0) (m2 := 98) (ci := 1) (a := 1) (bs := []) (r := [.ref sa]) (js_cls cl_c1 (by decide)) (show jw_find jw_cvT 7 77 = some (0, [(1, 98)]) by decide +kernel) (by decide) rfl rfl rfl) jm_98 ⟨Nat.le_of_ble_eq_true rfl, by decide⟩ hr1 ?_
  refine jr_c jm_145 (show jw_cd cd_145 144 = some (.invokestatic 164) by decide +kernel) (mc_s (n := 1) (m2 := 91) (bs := [.ref N]) (r := [.ref sa]) (by decide) (show jw_find jw_csT 7 164 = some (91, 1) by decide +kernel) rfl rfl rfl) jm_91 ⟨Nat.le_of_ble_eq_true rfl, by decide⟩ hr2 ?_
  refine jr_c jm_145 (show jw_cd cd_145 147 = some (.invokevirtual 168) by decide +kernel) (ccv (n := 1) (m2 := 147) (ci := 15) (a := sa) (bs := [.ref (N + 2)]) (r := []) (js_cls (cl_old hl2 ⟨by omega, uA⟩) (jbg (by omega))) (show jw_find jw_cvT 7 168 = some (1, [(15, 147)]) by decide +kernel) (by decide) rfl rfl rfl) jm_147 ⟨Nat.le_of_ble_eq_true rfl, by decide⟩ hr3 ?_
  refine jr_1 jm_145 (F2 := (153, [some (.ref 6), some (.ref sa), some (.int (Int32.ofInt (((i : Nat) : Int) + 1)))], [], (cl_mk h3 κ1))) (show jw_cd cd_145 150 = some (.iinc 2 1) by decide +kernel) (mt_inc (a := ((i : Nat) : Int)) (c := ((i : Nat) : Int) + 1) rfl (by omega) rfl) ?_
  refine jr_1 jm_145 (show jw_cd cd_145 153 = some (.goto (-55)) by decide +kernel) (ju_go (t := 98) (by decide)) ?_
  exact kk
