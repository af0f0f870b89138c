/-! ===== the class: what a value is in its heap; add (printed by program: gen81.py) ===== -/
theorem jm_94 : jw_M 94 = some (8, 2, (none, false), jw_cd cd_94, fun _ _ => none) := rfl
theorem jm_95 : jw_M 95 = some (8, 2, ((Option.some (Jvm.ClassFile.FieldType.array (Jvm.ClassFile.FieldType.object "PickDesk$Value"))), false), jw_cd cd_95, fun _ _ => none) := rfl
/-- a Value's own cells; P says what is in its rows -/
def vNd (h : jx_H) (X : Nat → Prop) (a : Nat) (i : tI) (sz : Nat) (P : (Nat → Value) → (Nat → Value) → Prop) : Prop := zc X a ∧ ∃ (t ka ia kc ic : Nat) (f g : Nat → Value), zc X ka ∧ zc X ia ∧ h[a]? = some (.inr (5, [.int (Int32.ofInt i.1), .int (Int32.ofInt i.2.1), .ref t, .ref ka, .ref ia, .int (Int32.ofInt (sz : Int))])) ∧ strR h X t i.2.2.1 ∧ h[ka]? = some (.inl (4, kc, g)) ∧ h[ia]? = some (.inl (4, ic, f)) ∧ (sz ≤ ic ∧ ic ≤ 1000000) ∧ ((i.1 = 6 ∧ sz ≤ kc ∧ kc ≤ 1000000) ∨ (¬ i.1 = 6 ∧ kc = 0)) ∧ P f g
/-- the rows f, g hold these from j on -/
def vF (h : jx_H) (X : Nat → Prop) : FT → Bool → (Nat → Value) → (Nat → Value) → Nat → Prop
  | .leaf, _, _, _, _ => True
  | .inner _ i _ c n, ob, f, g, j => (∃ a, f j = .ref a ∧ vNd h X a i (fsz c) (fun f' g' => vF h X c (decide (i.1 = 6)) f' g' 0)) ∧ (ob = true → ∃ a, g j = .ref a ∧ vNd h X a (4, 0, i.2.2.2, []) 0 (fun _ _ => True)) ∧ vF h X n ob f g (j + 1)
def vN (h : jx_H) (X : Nat → Prop) (a : Nat) (i : tI) (F : FT) : Prop := vNd h X a i (fsz F) (fun f' g' => vF h X F (decide (i.1 = 6)) f' g' 0)
theorem vNd_fr {h h' : jx_H} {X X' : Nat → Prop} {a : Nat} {i : tI} {sz : Nat} {P P' : (Nat → Value) → (Nat → Value) → Prop} (hq : ∀ c y, zc X c → h[c]? = some y → zc X' c ∧ h'[c]? = some y) (hP : ∀ f g, P f g → P' f g) (hv : vNd h X a i sz P) : vNd h' X' a i sz P' := by
  obtain ⟨z1, t, ka, ia, kc, ic, f, g, z2, z3, h1, h2, h3, h4, h5, h6, h7⟩ := hv
  exact ⟨(hq a _ z1 h1).1, t, ka, ia, kc, ic, f, g, (hq ka _ z2 h3).1, (hq ia _ z3 h4).1, (hq a _ z1 h1).2, strR_fr hq h2, (hq ka _ z2 h3).2, (hq ia _ z3 h4).2, h5, h6, hP f g h7⟩
theorem vF_fr {h h' : jx_H} {X X' : Nat → Prop} (hq : ∀ c y, zc X c → h[c]? = some y → zc X' c ∧ h'[c]? = some y) : ∀ (F : FT) (ob : Bool) (f g : Nat → Value) (j : Nat), vF h X F ob f g j → vF h' X' F ob f g j
  | .leaf, _, _, _, _, _ => trivial
  | .inner _ i _ c n, ob, f, g, j, hv => by
    obtain ⟨⟨a, a1, a2⟩, b, c1⟩ := hv
    refine ⟨⟨a, a1, vNd_fr hq (fun f' g' hp => vF_fr hq c _ f' g' 0 hp) a2⟩, fun z => ?_, vF_fr hq n ob f g (j + 1) c1⟩
    obtain ⟨b1, b2, b3⟩ := b z
    exact ⟨b1, b2, vNd_fr hq (fun _ _ _ => trivial) b3⟩
theorem vN_fr {h h' : jx_H} {X X' : Nat → Prop} {a : Nat} {i : tI} {F : FT} (hq : ∀ c y, zc X c → h[c]? = some y → zc X' c ∧ h'[c]? = some y) (hv : vN h X a i F) : vN h' X' a i F := vNd_fr hq (fun f g hp => vF_fr hq F _ f g 0 hp) hv
theorem vF_upd {h : jx_H} {X : Nat → Prop} : ∀ (F : FT) (ob : Bool) (f g f' g' : Nat → Value) (j : Nat), (∀ k, j ≤ k → k < j + fsz F → f' k = f k ∧ (ob = true → g' k = g k)) → vF h X F ob f g j → vF h X F ob f' g' j
  | .leaf, _, _, _, _, _, _, _, _ => trivial
  | .inner s0 i u0 c n, ob, f, g, f', g', j, hu, hv => by
    have hs : fsz (.inner s0 i u0 c n) = fsz n + 1 := rfl
    obtain ⟨⟨a, a1, a2⟩, b, c1⟩ := hv
    have h0 := hu j (Nat.le_refl _) (by omega)
    refine ⟨⟨a, by rw [h0.1]; exact a1, a2⟩, fun z => ?_, vF_upd n ob f g f' g' (j + 1) (fun k k1 k2 => hu k (by omega) (by omega)) c1⟩
    rw [h0.2 z]
    exact b z
theorem vF_app {h : jx_H} {X : Nat → Prop} {i : tI} {c : FT} : ∀ (F : FT) (ob : Bool) (f g : Nat → Value) (j : Nat), vF h X F ob f g j → (∃ a, f (j + fsz F) = .ref a ∧ vN h X a i c) → (ob = true → ∃ a, g (j + fsz F) = .ref a ∧ vNd h X a (4, 0, i.2.2.2, []) 0 (fun _ _ => True)) → vF h X (fapp i c F) ob f g j
  | .leaf, ob, f, g, j, _, h1, h2 => ⟨h1, h2, trivial⟩
  | .inner s0 k u0 e n, ob, f, g, j, hv, h1, h2 => by
    have hs : j + fsz (.inner s0 k u0 e n) = j + 1 + fsz n := by show j + (fsz n + 1) = _; omega
    rw [hs] at h1 h2
    exact ⟨hv.1, hv.2.1, vF_app n ob f g (j + 1) hv.2.2 h1 h2⟩
/-- every item is a Value -/
theorem vF_cls {β : Bool} {h : jx_H} {κ : mS} {X : Nat → Prop} (hl : 50 ≤ h.length) : ∀ (F : FT) (ob : Bool) (f g : Nat → Value) (j : Nat), vF h X F ob f g j → ∀ k, j ≤ k → k < j + fsz F → ∃ a, f k = .ref a ∧ jx_cls (jz β) (cl_mk h κ) a = some 5
  | .leaf, _, _, _, j, _, k, k1, k2 => by
    have : k < j + 0 := k2
    omega
  | .inner _ i _ c n, ob, f, g, j, hv, k, k1, k2 => by
    have k2 : k < j + (fsz n + 1) := k2
    by_cases e : k = j
    · subst e
      obtain ⟨a, a1, z1, t, ka, ia, kc, ic, f', g', z2, z3, h1, -⟩ := hv.1
      exact ⟨a, a1, js_cls (cl_old hl ⟨by have := z1.1; omega, h1⟩) (jbg (by have := z1.2.1; omega))⟩
    · exact vF_cls hl n ob f g (j + 1) hv.2.2 k (by omega) (by omega)
section CA
variable {β : Bool} {cd : Nat → Option Instr} {own pc k : Nat} {rt : Option FieldType × Bool} {lo : jx_L} {st : List Value} {H : jx_H}
theorem csa {H' : jx_H} {a n v : Nat} {g : Nat → Value} {i : Int} (ho : H[a]? = some (.inl (4, n, g))) (ha : a < jx_big) (hv : jx_cls (jz β) H v = some 5) (hn : n ≤ 2000000000) (h0 : 0 ≤ i) (h1 : i < n) (hs : H.set a (.inl (4, n, updV g i.toNat (.ref v))) = H') : jx_do (jz β) cd own pc rt .aastore lo (.ref v :: .int (Int32.ofInt i) :: .ref a :: st) H = some (.inl (pc + 1, lo, st, H')) := by
  obtain ⟨k1, k2⟩ := ci_nat hn h0 h1
  have e0 : jx_arr (jz β) H a = some (4, n, g) := js_arr ho ha
  have e1 : jx_may (jz β) H 4 (.ref v) = true := by
    unfold jx_may
    simp only [hv]
    rfl
  have e := js_ast (T := jz β) (ok := jx_isRefTy) (pc := pc) (lo := lo) (st := st) (v := .ref v) ho ha (ty := .object "PickDesk$Value") rfl rfl rfl k1
  rw [narrow_of_fits (by rfl), k2, hs] at e
  simp only [jx_do, e0, e1]
  exact e
theorem ccyR {H' : jx_H} {a a0 n0 n1 : Nat} {f g : Nat → Value} {n sp dp : Int} (hbi : jw_biB own k = some 2) (ho : H[a]? = some (.inl (4, n1, g))) (ha : a < jx_big) (ho0 : jx_arr (jz β) H a0 = some (4, n0, f)) (h0 : 0 ≤ n ∧ 0 ≤ sp ∧ 0 ≤ dp) (hn0 : sp.toNat + n.toNat ≤ n0) (hn1 : dp.toNat + n.toNat ≤ n1) (hr : n0 ≤ 60000000 ∧ n1 ≤ 60000000) (hw : jx_wt st = true) (hf : ∀ i, i < n.toNat → ∃ b, f (sp.toNat + i) = .ref b ∧ jx_cls (jz β) H b = some 5) (hs : H.set a (.inl (4, n1, va_cpy f g sp.toNat dp.toNat n.toNat)) = H') : jx_do (jz β) cd own pc rt (.invokestatic k) lo (.int (Int32.ofInt n) :: .int (Int32.ofInt dp) :: .ref a :: .int (Int32.ofInt sp) :: .ref a0 :: st) H = some (.inl (pc + 3, lo, st, H')) := by
  rw [← hs]
  have e0 : jx_bi (jz β) own k = some 2 := hbi
  obtain ⟨i1, i2⟩ := ofI_n (x := n) h0.1 (by omega)
  obtain ⟨j1, j2⟩ := ofI_n (x := sp) h0.2.1 (by omega)
  obtain ⟨k1, k2⟩ := ofI_n (x := dp) h0.2.2 (by omega)
  rw [Bool.and_eq_true] at i1 j1 k1
  have hall : ((List.range n.toNat).all fun i => jx_cpok (jz β) H 4 (.object "PickDesk$Value") (f (sp.toNat + i))) = true := by
    rw [List.all_eq_true]
    intro i hi
    obtain ⟨b, c1, c2⟩ := hf i (List.mem_range.mp hi)
    rw [c1]
    show (true && jx_may (jz β) H 4 (.ref b)) = true
    unfold jx_may
    simp only [c2]
    rfl
  have ety : jx_ty (jz β) 4 = some (.object "PickDesk$Value") := rfl
  have ewr : jx_wr (jz β) a = true := rfl
  show (match jx_bi (jz β) own k with
    | some b => _
    | none => _) = _
  simp only [e0]
  show jx_cpy (jz β) (Int32.ofInt n) (Int32.ofInt dp) a (Int32.ofInt sp) a0 pc lo st H = _
  unfold jx_cpy
  simp only [ho, ho0, ety, i2, j2, k2, hw, hall, ewr, i1.1, j1.1, k1.1, decide_eq_true ha, decide_eq_true hn0, decide_eq_true hn1]
  rfl
end CA
theorem jc_wid {β : Bool} {d : Nat} {h : jx_H} {κ : mS} (hl : 50 ≤ h.length) {N : Nat} (hN : h.length = N) (hb32 : N < 3000000000) {ia n : Nat} {f : Nat → Value} (hia : 15 ≤ ia ∧ h[ia]? = some (.inl (4, n, f))) (hn : n ≤ 10000) (hf : ∀ i, i < n → ∃ b, f i = .ref b ∧ jx_cls (jz β) (cl_mk (h ++ [.inl (4, (2 * (n : Int) + 2).toNat, fun _ => .null)]) κ) b = some 5) : jx_r (jz β) jw_M (d) 95 (0, [some (.ref ia), none], [], (cl_mk h κ)) (cl_mk (h ++ [.inl (4, (2 * (n : Int) + 2).toNat, va_cpy f (fun _ => .null) (0 : Int).toNat (0 : Int).toNat ((n : Int)).toNat)]) (κ), .inl (some (.ref (N)))) := by
  have hlt := (List.getElem?_eq_some_iff.mp hia.2).1
  refine jr_1 jm_95 (show jw_cd cd_95 0 = some (.iconst 2) by decide +kernel) rfl ?_
  refine jr_1 jm_95 (show jw_cd cd_95 1 = some (.aload_n 0) by decide +kernel) rfl ?_
  refine jr_1 jm_95 (show jw_cd cd_95 2 = some (.arraylength) by decide +kernel) (cln (jx_ar_h (cl_old hl hia) (jbg (by omega))) (by decide)) ?_
  refine jr_1 jm_95 (show jw_cd cd_95 3 = some (.imul) by decide +kernel) (mt_mul (c := 2 * (((n : Nat) : Int))) rfl) ?_
  refine jr_1 jm_95 (show jw_cd cd_95 4 = some (.iconst 2) by decide +kernel) rfl ?_
  refine jr_1 jm_95 (show jw_cd cd_95 5 = some (.iadd) by decide +kernel) (mt_add (c := 2 * (((n : Nat) : Int)) + 2) rfl) ?_
  refine jr_1 jm_95 (F2 := (9, [some (.ref ia), none], [.ref N], (cl_mk (h ++ [.inl (4, (2 * (((n : Nat) : Int)) + 2).toNat, fun _ => .null)]) κ))) (show jw_cd cd_95 6 = some (.anewarray 10) by decide +kernel) (cna_r0 hl hN (by omega) (by omega) (by omega) (show jw_find jw_anT 8 10 = some 4 by decide +kernel)) ?_
  refine jr_1 jm_95 (F2 := (10, [some (.ref ia), some (.ref N)], [], (cl_mk (h ++ [.inl (4, (2 * (((n : Nat) : Int)) + 2).toNat, fun _ => .null)]) κ))) (show jw_cd cd_95 9 = some (.astore_n 1) by decide +kernel) rfl ?_
  refine jr_1 jm_95 (show jw_cd cd_95 10 = some (.aload_n 0) by decide +kernel) rfl ?_
  refine jr_1 jm_95 (show jw_cd cd_95 11 = some (.iconst 0) by decide +kernel) rfl ?_
  refine jr_1 jm_95 (show jw_cd cd_95 12 = some (.aload_n 1) by decide +kernel) rfl ?_
  refine jr_1 jm_95 (show jw_cd cd_95 13 = some (.iconst 0) by decide +kernel) rfl ?_
  refine jr_1 jm_95 (show jw_cd cd_95 14 = some (.aload_n 0) by decide +kernel) rfl ?_
  refine jr_1 jm_95 (show jw_cd cd_95 15 = some (.arraylength) by decide +kernel) (cln (jx_ar_h (ap_old hl hia) (jbg (by omega))) (by decide)) ?_
  refine jr_1 jm_95 (F2 := (19, [some (.ref ia), some (.ref N)], [], (cl_mk (h ++ [.inl (4, (2 * (n : Int) + 2).toNat, va_cpy f (fun _ => .null) (0 : Int).toNat (0 : Int).toNat ((n : Int)).toNat)]) κ))) (show jw_cd cd_95 16 = some (.invokestatic 55) by decide +kernel) (ccyR (by decide) (ap_get hl hN 0 rfl) (jbg (by omega)) (jx_ar_h (ap_old hl hia) (jbg (by omega))) ⟨by omega, by decide, by decide⟩ (by show 0 + ((n : Int)).toNat ≤ n; omega) (by show 0 + ((n : Int)).toNat ≤ (2 * (n : Int) + 2).toNat; omega) ⟨by omega, by omega⟩ rfl (fun i hi => by rw [show (0 : Int).toNat + i = i from Nat.zero_add i]; exact hf i (by omega)) (ap_set hl hN 0 rfl)) ?_
  refine jr_1 jm_95 (show jw_cd cd_95 19 = some (.aload_n 1) by decide +kernel) rfl ?_
  exact jr_v jm_95 (show jw_cd cd_95 20 = some (.areturn) by decide +kernel) rfl
