/-! ===== the class: append to the resultText (printed by program: gen98.py) ===== -/
theorem jm_37 : jw_M 37 = some (3, 2, ((Option.some (Jvm.ClassFile.FieldType.object "java/lang/StringBuilder")), false), jw_cd cd_37, fun _ _ => none) := rfl
theorem jm_38 : jw_M 38 = some (4, 4, ((Option.some (Jvm.ClassFile.FieldType.object "java/lang/AbstractStringBuilder")), false), jw_cd cd_38, fun _ _ => none) := rfl
theorem jm_39 : jw_M 39 = some (17, 4, ((Option.some Jvm.ClassFile.FieldType.int), false), jw_cd cd_39, fun _ _ => none) := rfl
theorem jm_40 : jw_M 40 = some (17, 7, ((Option.some Jvm.ClassFile.FieldType.int), false), jw_cd cd_40, fun _ _ => none) := rfl
theorem jm_46 : jw_M 46 = some (3, 2, ((Option.some (Jvm.ClassFile.FieldType.object "java/lang/StringBuilder")), false), jw_cd cd_46, fun _ _ => none) := rfl
theorem jm_47 : jw_M 47 = some (4, 3, ((Option.some (Jvm.ClassFile.FieldType.object "java/lang/AbstractStringBuilder")), false), jw_cd cd_47, fun _ _ => none) := rfl
theorem jm_52 : jw_M 52 = some (4, 3, (none, false), jw_cd cd_52, fun _ _ => none) := rfl
theorem jm_53 : jw_M 53 = some (4, 2, (none, false), jw_cd cd_53, fun _ _ => none) := rfl
theorem jm_54 : jw_M 54 = some (15, 4, (none, false), jw_cd cd_54, fun _ _ => none) := rfl
theorem updV_at (g : Nat → Value) (i : Nat) (v : Value) : updV g i v i = v := if_pos rfl
theorem updV_ne (g : Nat → Value) {i j : Nat} (v : Value) (h : ¬ j = i) : updV g i v j = g j := if_neg h
/-- bytes written from p on -/
def fbW (fb : Nat → Value) (p : Nat) (w : List Int) : Nat → Value := fun j => if p ≤ j ∧ j < p + w.length then .int (Int32.ofInt (w.getD (j - p) 0)) else fb j
theorem fbW_nil (fb : Nat → Value) (p : Nat) : fbW fb p [] = fb := funext (fun j => if_neg (by intro z; have := z.2; simp only [List.length_nil] at this; omega))
theorem fbW_cons (fb : Nat → Value) (p : Nat) (x : Int) (w : List Int) : updV (fbW fb (p + 1) w) p (.int (Int32.ofInt x)) = fbW fb p (x :: w) := by
  funext j
  by_cases hj : j = p
  · subst hj
    rw [updV_at]
    unfold fbW
    rw [if_pos ⟨Nat.le_refl _, by rw [List.length_cons]; omega⟩, Nat.sub_self]
    rfl
  · rw [updV_ne _ _ hj]
    unfold fbW
    by_cases hc : p + 1 ≤ j ∧ j < p + 1 + w.length
    · rw [if_pos hc, if_pos ⟨by omega, by rw [List.length_cons]; omega⟩, show j - p = (j - (p + 1)) + 1 by omega]
      rfl
    · rw [if_neg hc, if_neg (by rw [List.length_cons]; omega)]
theorem fbW_one (fb : Nat → Value) (p : Nat) (x : Int) : updV fb p (.int (Int32.ofInt x)) = fbW fb p [x] := by
  rw [← fbW_cons, fbW_nil]
theorem fbW_cpy {f fb : Nat → Value} {s : List Int} (p : Nat) (hf : ∀ i, i < s.length → f i = .int (Int32.ofInt (s.getD i 0))) : va_cpy f fb 0 p s.length = fbW fb p s := by
  funext j
  unfold va_cpy fbW
  by_cases hc : p ≤ j ∧ j < p + s.length
  · rw [if_pos hc, if_pos hc, Nat.zero_add]
    exact hf _ (by omega)
  · rw [if_neg hc, if_neg hc]
theorem getD_mem {s : List Int} {P : Int → Prop} (h : ∀ c ∈ s, P c) {i : Nat} (hi : i < s.length) : P (s.getD i 0) := by
  rw [List.getD_eq_getElem?_getD, List.getElem?_eq_getElem hi]
  exact h _ (List.getElem_mem hi)
theorem fbW_b {fb : Nat → Value} {p : Nat} {w : List Int} (hb : ∀ i, ∃ x : Int, fb i = .int (Int32.ofInt x) ∧ 0 ≤ x ∧ x ≤ 127) (hw : ∀ c ∈ w, 0 ≤ c ∧ c ≤ 127) : ∀ i, ∃ x : Int, fbW fb p w i = .int (Int32.ofInt x) ∧ 0 ≤ x ∧ x ≤ 127 := by
  intro i
  unfold fbW
  by_cases hc : p ≤ i ∧ i < p + w.length
  · rw [if_pos hc]
    exact ⟨_, rfl, getD_mem hw (by omega)⟩
  · rw [if_neg hc]
    exact hb i
theorem fbW_lo {fb : Nat → Value} {p : Nat} {w : List Int} {i : Nat} (h : i < p) : fbW fb p w i = fb i := if_neg (by omega)
theorem fbW_in {fb : Nat → Value} {p : Nat} {w : List Int} {i : Nat} (h : i < w.length) : fbW fb p w (p + i) = .int (Int32.ofInt (w.getD i 0)) := by
  unfold fbW
  rw [if_pos ⟨by omega, by omega⟩, Nat.add_sub_cancel_left]
/-- the row of the resultText alone -/
def sbB (h : jx_H) (κ : mS) (r cap : Nat) (fb : Nat → Value) : Prop := κ 13 0 = (r : Int) ∧ (r = 14 ∨ (50 ≤ r ∧ r < 4000000000)) ∧ (cl_mk h κ)[r]? = some (.inl (3, cap, fb)) ∧ (cap = 16 ∨ cap = 34 ∨ cap = 70 ∨ cap = 142 ∨ cap = 286) ∧ (∀ i, ∃ x : Int, fb i = .int (Int32.ofInt x) ∧ 0 ≤ x ∧ x ≤ 127)
theorem sbR_B {h : jx_H} {κ : mS} {r cap : Nat} {fb : Nat → Value} {l : List Int} (hs : sbR h κ r cap fb l) : sbB h κ r cap fb := ⟨hs.1, hs.2.2.1, hs.2.2.2.1, hs.2.2.2.2.2.1, hs.2.2.2.2.2.2.1⟩
theorem sbB_R {h : jx_H} {κ : mS} {r cap : Nat} {fb : Nat → Value} {l : List Int} (hs : sbB h κ r cap fb) (h12 : κ 12 0 = (l.length : Int)) (hc : l.length ≤ cap) (hf : ∀ i, i < l.length → fb i = .int (Int32.ofInt (l.getD i 0))) : sbR h κ r cap fb l := ⟨hs.1, h12, hs.2.1, hs.2.2.1, hc, hs.2.2.2.1, hs.2.2.2.2, hf⟩
theorem sbB_n {h : jx_H} {κ : mS} {r cap : Nat} {fb : Nat → Value} {m : Int} (hl : 50 ≤ h.length) (hs : sbB h κ r cap fb) : sbB h (su κ 12 0 m) r cap fb := ⟨(su_nf (by decide)).trans hs.1, hs.2.1, rt_k hl hs.2.1 (su_row (by decide)) hs.2.2.1, hs.2.2.2.1, hs.2.2.2.2⟩
theorem sb_13B {h : jx_H} {κ : mS} {r cap : Nat} {fb : Nat → Value} (hs : sbB h κ r cap fb) : (κ 13 0).toNat = r := by rw [hs.1]; exact Int.toNat_natCast r
theorem sb_cp {h : jx_H} {κ : mS} {r cap : Nat} {fb : Nat → Value} (hs : sbB h κ r cap fb) : 16 ≤ cap ∧ cap ≤ 286 ∧ r < 4000000000 := by
  have := hs.2.1
  have := hs.2.2.2.1
  omega
theorem sb_sto {h : jx_H} {κ : mS} {r cap : Nat} {fb fb' : Nat → Value} (hl : 50 ≤ h.length) (hs : sbB h κ r cap fb) (hb : ∀ i, ∃ x : Int, fb' i = .int (Int32.ofInt x) ∧ 0 ≤ x ∧ x ≤ 127) : ∃ (h' : jx_H) (κ' : mS), List.set (cl_mk h κ) r (.inl (3, cap, fb')) = cl_mk h' κ' ∧ sbB h' κ' r cap fb' ∧ sbF h κ r cap h' κ' r cap ∧ mEq [14] κ κ' ∧ h'.length = h.length := by
  obtain ⟨h', κ', a1, a2, a3, a4, a5, a6⟩ := rt_set hl hs.2.1 hs.2.2.1 hb
  exact ⟨h', κ', a1, ⟨(congrFun (a3 13 (by decide)) 0).trans hs.1, hs.2.1, a4, hs.2.2.2.1, hb⟩, ⟨mEq_sub a3 (by decide), by omega, fun c y hc hy => ⟨hc, a5 c y hc hy⟩, by omega, by omega⟩, a3, a2⟩
theorem sbF_12 {h : jx_H} {κ : mS} {r cap : Nat} {m : Int} : sbF h κ r cap h (su κ 12 0 m) r cap := ⟨mEq_su (mEq_refl _ _) (by decide), Nat.le_refl _, fun c y hc hy => ⟨hc, hy⟩, Nat.le_refl _, Nat.le_refl _⟩
theorem sbF_refl {h : jx_H} {κ : mS} {r cap : Nat} : sbF h κ r cap h κ r cap := ⟨mEq_refl _ _, Nat.le_refl _, fun c y hc hy => ⟨hc, hy⟩, Nat.le_refl _, Nat.le_refl _⟩
theorem getD_app (l w : List Int) (i : Nat) : (l ++ w).getD i 0 = if i < l.length then l.getD i 0 else w.getD (i - l.length) 0 := by
  rw [List.getD_eq_getElem?_getD, List.getD_eq_getElem?_getD, List.getD_eq_getElem?_getD, List.getElem?_append]
  split <;> rfl
/-- l with w behind it -/
theorem sb_fin {h : jx_H} {κ : mS} {r cap : Nat} {fb : Nat → Value} {l w : List Int} (hs : sbB h κ r cap (fbW fb l.length w)) (hf : ∀ i, i < l.length → fb i = .int (Int32.ofInt (l.getD i 0))) (h12 : κ 12 0 = (l.length : Int) + (w.length : Int)) (hc : l.length + w.length ≤ cap) : sbR h κ r cap (fbW fb l.length w) (l ++ w) := by
  refine sbB_R hs (by rw [h12, List.length_append]; omega) (by rw [List.length_append]; exact hc) (fun i hi => ?_)
  rw [List.length_append] at hi
  rw [getD_app]
  by_cases hx : i < l.length
  · rw [if_pos hx, fbW_lo hx]
    exact hf i hx
  · rw [if_neg hx]
    have := fbW_in (fb := fb) (p := l.length) (w := w) (i := i - l.length) (by omega)
    rw [show l.length + (i - l.length) = i by omega] at this
    exact this
theorem js_lat {β : Bool} {d : Nat} {h : jx_H} {κ : mS} (hl : 50 ≤ h.length) : jx_r (jz β) jw_M (d) 23 (0, [some (.ref 13)], [], (cl_mk h κ)) (cl_mk h (κ), .inl (some (.int (Int32.ofInt (1))))) := by
  refine jr_1 jm_23 (show jw_cd cd_23 0 = some (.getstatic 18) by decide +kernel) (cgs (v := .int (Int32.ofInt (1))) (by decide) rfl) ?_
  refine jr_1 jm_23 (show jw_cd cd_23 3 = some (.ifCond .eq 14) by decide +kernel) (mz_f (q := .eq) (a := 1) (by show ¬ (1 = 0); omega) ⟨by omega, by omega⟩ (by decide)) ?_
  refine jr_1 jm_23 (show jw_cd cd_23 6 = some (.aload_n 0) by decide +kernel) rfl ?_
  refine jr_1 jm_23 (show jw_cd cd_23 7 = some (.getfield 22) by decide +kernel) (cgc_13 (show jw_fld 4 22 2 = some 1 by decide +kernel)) ?_
  refine jr_1 jm_23 (show jw_cd cd_23 10 = some (.ifCond .ne 7) by decide +kernel) (mz_f (q := .ne) (a := 0) (by show ¬ (¬ (0 = 0)); omega) ⟨by omega, by omega⟩ (by decide)) ?_
  refine jr_1 jm_23 (show jw_cd cd_23 13 = some (.iconst 1) by decide +kernel) rfl ?_
  refine jr_1 jm_23 (show jw_cd cd_23 14 = some (.goto 4) by decide +kernel) (ju_go (t := 18) (by decide)) ?_
  exact jr_v jm_23 (show jw_cd cd_23 18 = some (.ireturn) by decide +kernel) rfl
theorem js_app1 {β : Bool} {d : Nat} {h : jx_H} {κ : mS} (hl : 50 ≤ h.length) {N : Nat} (hN : h.length = N) (hb32 : N < 3000000000) {r cap : Nat} {fb : Nat → Value} {l : List Int} (hs : sbR h κ r cap fb l) {x : Int} (hx : 0 ≤ x ∧ x ≤ 127) (hm : l.length < 260) : ∃ (h' : jx_H) (κ' : mS) (r' cap' : Nat) (fb' : Nat → Value), jx_r (jz β) jw_M (d + 3) 15 (0, [some (.ref 13), some (.int (Int32.ofInt (x)))], [], (cl_mk h κ)) (cl_mk h' (κ'), .inl (some (.ref (13)))) ∧ sbR h' κ' r' cap' fb' (l ++ [x]) ∧ sbF h κ r cap h' κ' r' cap' := by
  obtain ⟨ha, κa, ra, ca, fa, hens, hsa, hca, hFa⟩ := js_ens (β := β) (d := d) hl hN hb32 hs (m := (l.length : Int) + 1) ⟨by omega, by omega, by omega⟩
  have s2 := hs.2.1
  have al : 50 ≤ ha.length := by have := hFa.2.1; omega
  have aB := sbR_B hsa
  have a12 := hsa.2.1
  have a13 := sb_13B aB
  have acap := sb_cp aB
  have bB0 := sbB_n (m := (l.length : Int) + 1) al aB
  obtain ⟨hb, κb, b1, bB, bF, bq, bl⟩ := sb_sto (fb' := updV fa ((l.length : Int)).toNat (.int (Int32.ofInt x))) al bB0 (by
    rw [fbW_one]
    exact fbW_b bB0.2.2.2.2 (fun c hc => by rw [List.mem_singleton] at hc; rw [hc]; exact hx))
  refine ⟨hb, κb, ra, ca, fbW fa l.length [x], ?_, ?_, sbF_tr hFa (sbF_tr sbF_12 bF)⟩
  rotate_left
  · rw [fbW_one, Int.toNat_natCast] at bB
    exact sb_fin bB hsa.2.2.2.2.2.2.2 ((congrFun (bq 12 (by decide)) 0).trans (su_eq _ _ _ _)) (by show l.length + 1 ≤ ca; omega)
  refine jr_1 jm_15 (show jw_cd cd_15 0 = some (.aload_n 0) by decide +kernel) rfl ?_
  refine jr_1 jm_15 (show jw_cd cd_15 1 = some (.aload_n 0) by decide +kernel) rfl ?_
  refine jr_1 jm_15 (show jw_cd cd_15 2 = some (.getfield 79) by decide +kernel) (cg_12 (e := (l.length : Int)) s2 (show jw_fld 4 79 2 = some 3 by decide +kernel)) ?_
  refine jr_1 jm_15 (show jw_cd cd_15 5 = some (.iconst 1) by decide +kernel) rfl ?_
  refine jr_1 jm_15 (show jw_cd cd_15 6 = some (.iadd) by decide +kernel) (mt_add (c := (l.length : Int) + 1) rfl) ?_
  refine jr_c jm_15 (show jw_cd cd_15 7 = some (.invokevirtual 100) by decide +kernel) (ccv (n := 1) (m2 := 16) (ci := 2) (a := 13) (bs := [.int (Int32.ofInt ((l.length : Int) + 1))]) (r := []) (js_cls cl_c13 (by decide)) (show jw_find jw_cvT 4 100 = some (1, [(2, 16)]) by decide +kernel) (by decide) rfl rfl rfl) jm_16 ⟨Nat.le_of_ble_eq_true rfl, by decide⟩ hens ?_
  refine jr_1 jm_15 (show jw_cd cd_15 10 = some (.aload_n 0) by decide +kernel) rfl ?_
  refine jr_c jm_15 (show jw_cd cd_15 11 = some (.invokevirtual 83) by decide +kernel) (ccv (n := 0) (m2 := 23) (ci := 2) (a := 13) (bs := []) (r := []) (js_cls cl_c13 (by decide)) (show jw_find jw_cvT 4 83 = some (0, [(2, 23)]) by decide +kernel) (by decide) rfl rfl rfl) jm_23 ⟨Nat.le_of_ble_eq_true rfl, by decide⟩ (js_lat al) ?_
  refine jr_1 jm_15 (show jw_cd cd_15 14 = some (.ifCond .eq 31) by decide +kernel) (mz_f (q := .eq) (a := 1) (by show ¬ (1 = 0); omega) ⟨by omega, by omega⟩ (by decide)) ?_
  refine jr_1 jm_15 (show jw_cd cd_15 17 = some (.iload_n 1) by decide +kernel) rfl ?_
  refine jr_c jm_15 (show jw_cd cd_15 18 = some (.invokestatic 191) by decide +kernel) (mc_s (n := 1) (m2 := 24) (bs := [.int (Int32.ofInt (x))]) (r := []) (by decide) (show jw_find jw_csT 4 191 = some (24, 1) by decide +kernel) rfl rfl rfl) jm_24 ⟨Nat.le_of_ble_eq_true rfl, by decide⟩ (jc_enc al hx) ?_
  refine jr_1 jm_15 (show jw_cd cd_15 21 = some (.ifCond .eq 24) by decide +kernel) (mz_f (q := .eq) (a := 1) (by show ¬ (1 = 0); omega) ⟨by omega, by omega⟩ (by decide)) ?_
  refine jr_1 jm_15 (show jw_cd cd_15 24 = some (.aload_n 0) by decide +kernel) rfl ?_
  refine jr_1 jm_15 (show jw_cd cd_15 25 = some (.getfield 15) by decide +kernel) (cgk_13 (e := ra) a13 (show jw_fld 4 15 2 = some 0 by decide +kernel)) ?_
  refine jr_1 jm_15 (show jw_cd cd_15 28 = some (.aload_n 0) by decide +kernel) rfl ?_
  refine jr_1 jm_15 (show jw_cd cd_15 29 = some (.dup) by decide +kernel) rfl ?_
  refine jr_1 jm_15 (show jw_cd cd_15 30 = some (.getfield 79) by decide +kernel) (cg_12 (e := (l.length : Int)) a12 (show jw_fld 4 79 2 = some 3 by decide +kernel)) ?_
  refine jr_1 jm_15 (show jw_cd cd_15 33 = some (.dup_x1) by decide +kernel) rfl ?_
  refine jr_1 jm_15 (show jw_cd cd_15 34 = some (.iconst 1) by decide +kernel) rfl ?_
  refine jr_1 jm_15 (show jw_cd cd_15 35 = some (.iadd) by decide +kernel) (mt_add (c := (l.length : Int) + 1) rfl) ?_
  refine jr_1 jm_15 (show jw_cd cd_15 36 = some (.putfield 79) by decide +kernel) (cp_12 (x := (l.length : Int) + 1) (show jw_fld 4 79 2 = some 3 by decide +kernel) (show jw_fm 4 2 3 = some false by decide +kernel)) ?_
  refine jr_1 jm_15 (show jw_cd cd_15 39 = some (.iload_n 1) by decide +kernel) rfl ?_
  refine jr_1 jm_15 (show jw_cd cd_15 40 = some (.i2b) by decide +kernel) (mt_i2b ⟨by omega, by omega⟩) ?_
  refine jr_1 jm_15 (F2 := (42, [some (.ref 13), some (.int (Int32.ofInt (x)))], [], (cl_mk hb κb))) (show jw_cd cd_15 41 = some (.bastore) by decide +kernel) (csB bB0.2.2.1 (jbg (by omega)) (by omega) (by omega) (by omega) ⟨by omega, by omega⟩ b1) ?_
  refine jr_1 jm_15 (show jw_cd cd_15 42 = some (.goto 33) by decide +kernel) (ju_go (t := 75) (by decide)) ?_
  refine jr_1 jm_15 (show jw_cd cd_15 75 = some (.aload_n 0) by decide +kernel) rfl ?_
  exact jr_v jm_15 (show jw_cd cd_15 76 = some (.areturn) by decide +kernel) rfl
theorem js_app {β : Bool} {d : Nat} {h : jx_H} {κ : mS} (hl : 50 ≤ h.length) {N : Nat} (hN : h.length = N) (hb32 : N < 3000000000) {r cap : Nat} {fb : Nat → Value} {l : List Int} (hs : sbR h κ r cap fb l) {x : Int} (hx : 0 ≤ x ∧ x ≤ 127) (hm : l.length < 260) : ∃ (h' : jx_H) (κ' : mS) (r' cap' : Nat) (fb' : Nat → Value), jx_r (jz β) jw_M (d + 4) 14 (0, [some (.ref 13), some (.int (Int32.ofInt (x)))], [], (cl_mk h κ)) (cl_mk h' (κ'), .inl (some (.ref (13)))) ∧ sbR h' κ' r' cap' fb' (l ++ [x]) ∧ sbF h κ r cap h' κ' r' cap' := by
  obtain ⟨h', κ', r', cap', fb', hr, hc, hF⟩ := js_app1 (β := β) (d := d) hl hN hb32 hs hx hm
  refine ⟨h', κ', r', cap', fb', ?_, hc, hF⟩
  refine jr_1 jm_14 (show jw_cd cd_14 0 = some (.aload_n 0) by decide +kernel) rfl ?_
  refine jr_1 jm_14 (show jw_cd cd_14 1 = some (.iload_n 1) by decide +kernel) rfl ?_
  refine jr_c jm_14 (show jw_cd cd_14 2 = some (.invokespecial 50) by decide +kernel) (ccp (n := 1) (m2 := 15) (ci := 2) (a := 13) (bs := [.int (Int32.ofInt (x))]) (r := []) (by decide +kernel) (js_cls cl_c13 (by decide)) (by decide) (by decide) (show jw_find jw_cpT 3 50 = some (1, 15) by decide +kernel) rfl rfl rfl) jm_15 ⟨Nat.le_of_ble_eq_true rfl, by decide⟩ hr ?_
  refine jr_1 jm_14 (show jw_cd cd_14 5 = some (.pop) by decide +kernel) rfl ?_
  refine jr_1 jm_14 (show jw_cd cd_14 6 = some (.aload_n 0) by decide +kernel) rfl ?_
  exact jr_v jm_14 (show jw_cd cd_14 7 = some (.areturn) by decide +kernel) rfl
section CN
variable {β : Bool} {cd : Nat → Option Instr} {own pc k : Nat} {rt : Option FieldType × Bool} {lo : jx_L} {st : List Value} {H : jx_H}
theorem cnn_r {a t : Nat} {off : Int} (h0 : 0 ≤ (pc : Int) + off) (ht : jx_to pc off = some t) : jx_do (jz β) cd own pc rt (.ifnonnull off) lo (.ref a :: st) H = some (.inl (t, lo, st, H)) := by
  simp only [jx_do, jx_br, jx_go, ht, if_pos h0]
theorem cnn_n {off : Int} (h0 : 0 ≤ (pc : Int) + off) : jx_do (jz β) cd own pc rt (.ifnonnull off) lo (.null :: st) H = some (.inl (pc + 3, lo, st, H)) := by
  simp only [jx_do, jx_br, if_pos h0]
theorem cnl_r {a : Nat} {off : Int} (h0 : 0 ≤ (pc : Int) + off) : jx_do (jz β) cd own pc rt (.ifnull off) lo (.ref a :: st) H = some (.inl (pc + 3, lo, st, H)) := by
  simp only [jx_do, jx_br, if_pos h0]
theorem cnl_n {t : Nat} {off : Int} (h0 : 0 ≤ (pc : Int) + off) (ht : jx_to pc off = some t) : jx_do (jz β) cd own pc rt (.ifnull off) lo (.null :: st) H = some (.inl (t, lo, st, H)) := by
  simp only [jx_do, jx_br, jx_go, ht, if_pos h0]
end CN
theorem js_inf {β : Bool} {d : Nat} {h : jx_H} {κ : mS} (hl : 50 ≤ h.length) {X : Nat → Prop} {t : Nat} {s : List Int} (ht : strR h X t s) (hm : s.length ≤ 100) : jx_r (jz β) jw_M (d + 1) 53 (0, [some (.ref 13), some (.ref t)], [], (cl_mk h κ)) (cl_mk h (κ), .inl none) := by
  obtain ⟨qc, qs, b, f, q0, q1, qa, qf⟩ := strR_q (β := β) (κ := κ) hl ht
  refine jr_1 jm_53 (show jw_cd cd_53 0 = some (.getstatic 18) by decide +kernel) (cgs (v := .int (Int32.ofInt (1))) (by decide) rfl) ?_
  refine jr_1 jm_53 (show jw_cd cd_53 3 = some (.ifCond .eq 18) by decide +kernel) (mz_f (q := .eq) (a := 1) (by show ¬ (1 = 0); omega) ⟨by omega, by omega⟩ (by decide)) ?_
  refine jr_1 jm_53 (show jw_cd cd_53 6 = some (.aload_n 0) by decide +kernel) rfl ?_
  refine jr_1 jm_53 (show jw_cd cd_53 7 = some (.getfield 22) by decide +kernel) (cgc_13 (show jw_fld 4 22 2 = some 1 by decide +kernel)) ?_
  refine jr_1 jm_53 (show jw_cd cd_53 10 = some (.aload_n 1) by decide +kernel) rfl ?_
  refine jr_c jm_53 (show jw_cd cd_53 11 = some (.invokevirtual 40) by decide +kernel) (ccv (n := 0) (m2 := 51) (ci := 9) (a := t) (bs := []) (r := [.int (Int32.ofInt (0))]) qc (show jw_find jw_cvT 4 40 = some (0, [(9, 51)]) by decide +kernel) (by decide) rfl rfl rfl) jm_51 ⟨Nat.le_of_ble_eq_true rfl, by decide⟩ (jc_coder hl ht (by omega)) ?_
  refine jr_1 jm_53 (show jw_cd cd_53 14 = some (.if_icmp .eq 7) by decide +kernel) (mb_t (q := .eq) (a := 0) (b := 0) (t := 21) (by show 0 = 0; omega) ⟨by omega, by omega⟩ ⟨by omega, by omega⟩ (by decide) (by decide)) ?_
  exact jr_v jm_53 (show jw_cd cd_53 21 = some (.return_) by decide +kernel) rfl
theorem js_getB {β : Bool} {d : Nat} {h : jx_H} {κ : mS} (hl : 50 ≤ h.length) {r cap : Nat} {fb : Nat → Value} (hB : sbB h κ r cap fb) {X : Nat → Prop} {t : Nat} {s : List Int} (ht : strR h X t s) (hm : s.length ≤ 100) (hc : ∀ c ∈ s, 0 ≤ c ∧ c ≤ 127) {p : Nat} (hp : p + s.length ≤ cap) : ∃ (h' : jx_H) (κ' : mS), jx_r (jz β) jw_M (d + 1) 54 (0, [some (.ref t), some (.ref r), some (.int (Int32.ofInt (((p : Nat) : Int)))), some (.int (Int32.ofInt (0)))], [], (cl_mk h κ)) (cl_mk h' (κ'), .inl none) ∧ sbB h' κ' r cap (fbW fb p s) ∧ sbF h κ r cap h' κ' r cap ∧ mEq [14] κ κ' ∧ h'.length = h.length := by
  obtain ⟨qc, qs, b, f, q0, q1, qa, qf⟩ := strR_q (β := β) (κ := κ) hl ht
  have hcap := sb_cp hB
  obtain ⟨h', κ', b1, b2, b3, b4, b5⟩ := sb_sto hl hB (fbW_b (p := p) hB.2.2.2.2 hc)
  rw [← fbW_cpy (f := f) p qf] at b1
  have b1 : List.set (cl_mk h κ) r (.inl (3, cap, va_cpy f fb (0 : Int).toNat (((p : Nat) : Int)).toNat (((s.length : Nat) : Int)).toNat)) = cl_mk h' κ' := by
    rw [Int.toNat_natCast, Int.toNat_natCast]
    exact b1
  refine ⟨h', κ', ?_, b2, b3, b4, b5⟩
  refine jr_1 jm_54 (show jw_cd cd_54 0 = some (.aload_n 0) by decide +kernel) rfl ?_
  refine jr_c jm_54 (show jw_cd cd_54 1 = some (.invokevirtual 335) by decide +kernel) (ccv (n := 0) (m2 := 51) (ci := 9) (a := t) (bs := []) (r := []) qc (show jw_find jw_cvT 15 335 = some (0, [(9, 51)]) by decide +kernel) (by decide) rfl rfl rfl) jm_51 ⟨Nat.le_of_ble_eq_true rfl, by decide⟩ (jc_coder hl ht (by omega)) ?_
  refine jr_1 jm_54 (show jw_cd cd_54 4 = some (.iload_n 3) by decide +kernel) rfl ?_
  refine jr_1 jm_54 (show jw_cd cd_54 5 = some (.if_icmp .ne 23) by decide +kernel) (mb_f (q := .ne) (a := 0) (b := 0) (by show ¬ (¬ (0 = 0)); omega) ⟨by omega, by omega⟩ ⟨by omega, by omega⟩ (by decide)) ?_
  refine jr_1 jm_54 (show jw_cd cd_54 8 = some (.aload_n 0) by decide +kernel) rfl ?_
  refine jr_1 jm_54 (show jw_cd cd_54 9 = some (.getfield 9) by decide +kernel) (cgf qc (show jw_fld 15 9 9 = some 0 by decide +kernel) q0) ?_
  refine jr_1 jm_54 (show jw_cd cd_54 12 = some (.iconst 0) by decide +kernel) rfl ?_
  refine jr_1 jm_54 (show jw_cd cd_54 13 = some (.aload_n 1) by decide +kernel) rfl ?_
  refine jr_1 jm_54 (show jw_cd cd_54 14 = some (.iload_n 2) by decide +kernel) rfl ?_
  refine jr_1 jm_54 (show jw_cd cd_54 15 = some (.iload_n 3) by decide +kernel) rfl ?_
  refine jr_1 jm_54 (show jw_cd cd_54 16 = some (.ishl) by decide +kernel) mt_shl0 ?_
  refine jr_1 jm_54 (show jw_cd cd_54 17 = some (.aload_n 0) by decide +kernel) rfl ?_
  refine jr_1 jm_54 (show jw_cd cd_54 18 = some (.getfield 9) by decide +kernel) (cgf qc (show jw_fld 15 9 9 = some 0 by decide +kernel) q0) ?_
  refine jr_1 jm_54 (show jw_cd cd_54 21 = some (.arraylength) by decide +kernel) (cln qa (by decide)) ?_
  refine jr_1 jm_54 (F2 := (25, [some (.ref t), some (.ref r), some (.int (Int32.ofInt (((p : Nat) : Int)))), some (.int (Int32.ofInt (0)))], [], (cl_mk h' κ'))) (show jw_cd cd_54 22 = some (.invokestatic 212) by decide +kernel) (ccyE (by decide) hB.2.2.1 (jbg (by omega)) qa ⟨by omega, by decide, by omega⟩ (by show 0 + (((s.length : Nat) : Int)).toNat ≤ s.length; omega) (by show (((p : Nat) : Int)).toNat + (((s.length : Nat) : Int)).toNat ≤ cap; omega) ⟨by omega, by omega⟩ rfl (fun i hi => ⟨_, (congrArg f (Nat.zero_add i)).trans (qf i (by omega)), getD_mem hc (by omega)⟩) b1) ?_
  refine jr_1 jm_54 (show jw_cd cd_54 25 = some (.goto 18) by decide +kernel) (ju_go (t := 43) (by decide)) ?_
  exact jr_v jm_54 (show jw_cd cd_54 43 = some (.return_) by decide +kernel) rfl
theorem js_putS {β : Bool} {d : Nat} {h : jx_H} {κ : mS} (hl : 50 ≤ h.length) {r cap : Nat} {fb : Nat → Value} (hB : sbB h κ r cap fb) {X : Nat → Prop} {t : Nat} {s : List Int} (ht : strR h X t s) (hm : s.length ≤ 100) (hc : ∀ c ∈ s, 0 ≤ c ∧ c ≤ 127) {p : Nat} (hp : p + s.length ≤ cap) : ∃ (h' : jx_H) (κ' : mS), jx_r (jz β) jw_M (d + 2) 52 (0, [some (.ref 13), some (.int (Int32.ofInt (((p : Nat) : Int)))), some (.ref t)], [], (cl_mk h κ)) (cl_mk h' (κ'), .inl none) ∧ sbB h' κ' r cap (fbW fb p s) ∧ sbF h κ r cap h' κ' r cap ∧ mEq [14] κ κ' ∧ h'.length = h.length := by
  have e13 := sb_13B hB
  obtain ⟨qc, qs, b, f, q0, q1, qa, qf⟩ := strR_q (β := β) (κ := κ) hl ht
  obtain ⟨h', κ', hr, b⟩ := js_getB (β := β) (d := d) hl hB ht hm hc hp
  refine ⟨h', κ', ?_, b⟩
  refine jr_1 jm_52 (show jw_cd cd_52 0 = some (.aload_n 0) by decide +kernel) rfl ?_
  refine jr_1 jm_52 (show jw_cd cd_52 1 = some (.aload_n 2) by decide +kernel) rfl ?_
  refine jr_c jm_52 (show jw_cd cd_52 2 = some (.invokevirtual 397) by decide +kernel) (ccv (n := 1) (m2 := 53) (ci := 2) (a := 13) (bs := [.ref t]) (r := []) (js_cls cl_c13 (by decide)) (show jw_find jw_cvT 4 397 = some (1, [(2, 53)]) by decide +kernel) (by decide) rfl rfl rfl) jm_53 ⟨Nat.le_of_ble_eq_true rfl, by decide⟩ (js_inf hl ht hm) ?_
  refine jr_1 jm_52 (show jw_cd cd_52 5 = some (.aload_n 2) by decide +kernel) rfl ?_
  refine jr_1 jm_52 (show jw_cd cd_52 6 = some (.aload_n 0) by decide +kernel) rfl ?_
  refine jr_1 jm_52 (show jw_cd cd_52 7 = some (.getfield 15) by decide +kernel) (cgk_13 (e := r) e13 (show jw_fld 4 15 2 = some 0 by decide +kernel)) ?_
  refine jr_1 jm_52 (show jw_cd cd_52 10 = some (.iload_n 1) by decide +kernel) rfl ?_
  refine jr_1 jm_52 (show jw_cd cd_52 11 = some (.aload_n 0) by decide +kernel) rfl ?_
  refine jr_1 jm_52 (show jw_cd cd_52 12 = some (.getfield 22) by decide +kernel) (cgc_13 (show jw_fld 4 22 2 = some 1 by decide +kernel)) ?_
  refine jr_c jm_52 (show jw_cd cd_52 15 = some (.invokevirtual 399) by decide +kernel) (ccv (n := 3) (m2 := 54) (ci := 9) (a := t) (bs := [.ref r, .int (Int32.ofInt (((p : Nat) : Int))), .int (Int32.ofInt (0))]) (r := []) qc (show jw_find jw_cvT 4 399 = some (3, [(9, 54)]) by decide +kernel) (by decide) rfl rfl rfl) jm_54 ⟨Nat.le_of_ble_eq_true rfl, by decide⟩ hr ?_
  exact jr_v jm_52 (show jw_cd cd_52 18 = some (.return_) by decide +kernel) rfl
theorem js_apS1 {β : Bool} {d : Nat} {h : jx_H} {κ : mS} (hl : 50 ≤ h.length) {N : Nat} (hN : h.length = N) (hb32 : N < 3000000000) {r cap : Nat} {fb : Nat → Value} {l : List Int} (hs : sbR h κ r cap fb l) {X : Nat → Prop} (hX : X r) {t : Nat} {s : List Int} (ht : strR h X t s) (hm : s.length ≤ 12) (hc : ∀ c ∈ s, 0 ≤ c ∧ c ≤ 127) (hml : l.length + s.length ≤ 260) : ∃ (h' : jx_H) (κ' : mS) (r' cap' : Nat) (fb' : Nat → Value), jx_r (jz β) jw_M (d + 3) 47 (0, [some (.ref 13), some (.ref t), none], [], (cl_mk h κ)) (cl_mk h' (κ'), .inl (some (.ref (13)))) ∧ sbR h' κ' r' cap' fb' (l ++ s) ∧ sbF h κ r cap h' κ' r' cap' := by
  have s2 := hs.2.1
  obtain ⟨qc, qs, b, f, q0, q1, qa, qf⟩ := strR_q (β := β) (κ := κ) hl ht
  obtain ⟨ha, κa, ra, ca, fa, hens, hsa, hca, hFa⟩ := js_ens (β := β) (d := d) hl hN hb32 hs (m := (l.length : Int) + ((s.length : Nat) : Int)) ⟨by omega, by omega, by omega⟩
  have al : 50 ≤ ha.length := by have := hFa.2.1; omega
  have aB := sbR_B hsa
  have a12 := hsa.2.1
  have hta : strR ha (fun c => c = ra) t s := strR_fr (fun c y z w => ⟨⟨z.1, z.2.1, (hFa.2.2.1 c y (fun e => z.2.2 (by rw [e]; exact hX)) w).1⟩, (hFa.2.2.1 c y (fun e => z.2.2 (by rw [e]; exact hX)) w).2⟩) ht
  obtain ⟨hb, κb, hr, bB, bF, bq, bl⟩ := js_putS (β := β) (d := d) (p := l.length) al aB hta (by omega) hc (by omega)
  have b12 : κb 12 0 = (l.length : Int) := (congrFun (bq 12 (by decide)) 0).trans a12
  have hbl : 50 ≤ hb.length := by omega
  refine ⟨hb, su κb 12 0 ((l.length : Int) + ((s.length : Nat) : Int)), ra, ca, _, ?_, sb_fin (sbB_n hbl bB) hsa.2.2.2.2.2.2.2 (su_eq _ _ _ _) (by omega), sbF_tr hFa (sbF_tr bF sbF_12)⟩
  have qc0 := qc
  replace qc := (strR_q (β := β) (κ := κ) hl ht).1
  refine jr_1 jm_47 (show jw_cd cd_47 0 = some (.aload_n 1) by decide +kernel) rfl ?_
  refine jr_1 jm_47 (show jw_cd cd_47 1 = some (.ifnonnull 8) by decide +kernel) (cnn_r (t := 9) (by decide) (by decide)) ?_
  refine jr_1 jm_47 (show jw_cd cd_47 9 = some (.aload_n 1) by decide +kernel) rfl ?_
  refine jr_c jm_47 (show jw_cd cd_47 10 = some (.invokevirtual 32) by decide +kernel) (ccv (n := 0) (m2 := 50) (ci := 9) (a := t) (bs := []) (r := []) qc (show jw_find jw_cvT 4 32 = some (0, [(9, 50)]) by decide +kernel) (by decide) rfl rfl rfl) jm_50 ⟨Nat.le_of_ble_eq_true rfl, by decide⟩ (jc_strlen hl ht (by omega)) ?_
  refine jr_1 jm_47 (F2 := (14, [some (.ref 13), some (.ref t), some (.int (Int32.ofInt (((s.length : Nat) : Int))))], [], (cl_mk h κ))) (show jw_cd cd_47 13 = some (.istore_n 2) by decide +kernel) rfl ?_
  refine jr_1 jm_47 (show jw_cd cd_47 14 = some (.aload_n 0) by decide +kernel) rfl ?_
  refine jr_1 jm_47 (show jw_cd cd_47 15 = some (.aload_n 0) by decide +kernel) rfl ?_
  refine jr_1 jm_47 (show jw_cd cd_47 16 = some (.getfield 79) by decide +kernel) (cg_12 (e := ((l.length : Nat) : Int)) s2 (show jw_fld 4 79 2 = some 3 by decide +kernel)) ?_
  refine jr_1 jm_47 (show jw_cd cd_47 19 = some (.iload_n 2) by decide +kernel) rfl ?_
  refine jr_1 jm_47 (show jw_cd cd_47 20 = some (.iadd) by decide +kernel) (mt_add (c := ((l.length : Nat) : Int) + (((s.length : Nat) : Int))) rfl) ?_
  refine jr_c jm_47 (show jw_cd cd_47 21 = some (.invokevirtual 100) by decide +kernel) (ccv (n := 1) (m2 := 16) (ci := 2) (a := 13) (bs := [.int (Int32.ofInt (((l.length : Nat) : Int) + (((s.length : Nat) : Int))))]) (r := []) (js_cls cl_c13 (by decide)) (show jw_find jw_cvT 4 100 = some (1, [(2, 16)]) by decide +kernel) (by decide) rfl rfl rfl) jm_16 ⟨Nat.le_of_ble_eq_true rfl, by decide⟩ hens ?_
  refine jr_1 jm_47 (show jw_cd cd_47 24 = some (.aload_n 0) by decide +kernel) rfl ?_
  refine jr_1 jm_47 (show jw_cd cd_47 25 = some (.aload_n 0) by decide +kernel) rfl ?_
  refine jr_1 jm_47 (show jw_cd cd_47 26 = some (.getfield 79) by decide +kernel) (cg_12 (e := ((l.length : Nat) : Int)) a12 (show jw_fld 4 79 2 = some 3 by decide +kernel)) ?_
  refine jr_1 jm_47 (show jw_cd cd_47 29 = some (.aload_n 1) by decide +kernel) rfl ?_
  refine jr_c jm_47 (show jw_cd cd_47 30 = some (.invokevirtual 208) by decide +kernel) (ccv (n := 2) (m2 := 52) (ci := 2) (a := 13) (bs := [.int (Int32.ofInt (((l.length : Nat) : Int))), .ref t]) (r := []) (js_cls cl_c13 (by decide)) (show jw_find jw_cvT 4 208 = some (2, [(2, 52)]) by decide +kernel) (by decide) rfl rfl rfl) jm_52 ⟨Nat.le_of_ble_eq_true rfl, by decide⟩ hr ?_
  refine jr_1 jm_47 (show jw_cd cd_47 33 = some (.aload_n 0) by decide +kernel) rfl ?_
  refine jr_1 jm_47 (show jw_cd cd_47 34 = some (.dup) by decide +kernel) rfl ?_
  refine jr_1 jm_47 (show jw_cd cd_47 35 = some (.getfield 79) by decide +kernel) (cg_12 (e := ((l.length : Nat) : Int)) b12 (show jw_fld 4 79 2 = some 3 by decide +kernel)) ?_
  refine jr_1 jm_47 (show jw_cd cd_47 38 = some (.iload_n 2) by decide +kernel) rfl ?_
  refine jr_1 jm_47 (show jw_cd cd_47 39 = some (.iadd) by decide +kernel) (mt_add (c := ((l.length : Nat) : Int) + (((s.length : Nat) : Int))) rfl) ?_
  refine jr_1 jm_47 (show jw_cd cd_47 40 = some (.putfield 79) by decide +kernel) (cp_12 (x := ((l.length : Nat) : Int) + (((s.length : Nat) : Int))) (show jw_fld 4 79 2 = some 3 by decide +kernel) (show jw_fm 4 2 3 = some false by decide +kernel)) ?_
  refine jr_1 jm_47 (show jw_cd cd_47 43 = some (.aload_n 0) by decide +kernel) rfl ?_
  exact jr_v jm_47 (show jw_cd cd_47 44 = some (.areturn) by decide +kernel) rfl
theorem js_apS {β : Bool} {d : Nat} {h : jx_H} {κ : mS} (hl : 50 ≤ h.length) {N : Nat} (hN : h.length = N) (hb32 : N < 3000000000) {r cap : Nat} {fb : Nat → Value} {l : List Int} (hs : sbR h κ r cap fb l) {X : Nat → Prop} (hX : X r) {t : Nat} {s : List Int} (ht : strR h X t s) (hm : s.length ≤ 12) (hc : ∀ c ∈ s, 0 ≤ c ∧ c ≤ 127) (hml : l.length + s.length ≤ 260) : ∃ (h' : jx_H) (κ' : mS) (r' cap' : Nat) (fb' : Nat → Value), jx_r (jz β) jw_M (d + 4) 46 (0, [some (.ref 13), some (.ref t)], [], (cl_mk h κ)) (cl_mk h' (κ'), .inl (some (.ref (13)))) ∧ sbR h' κ' r' cap' fb' (l ++ s) ∧ sbF h κ r cap h' κ' r' cap' := by
  obtain ⟨h', κ', r', cap', fb', hr, hc, hF⟩ := js_apS1 (β := β) (d := d) hl hN hb32 hs hX ht hm hc hml
  refine ⟨h', κ', r', cap', fb', ?_, hc, hF⟩
  refine jr_1 jm_46 (show jw_cd cd_46 0 = some (.aload_n 0) by decide +kernel) rfl ?_
  refine jr_1 jm_46 (show jw_cd cd_46 1 = some (.aload_n 1) by decide +kernel) rfl ?_
  refine jr_c jm_46 (show jw_cd cd_46 2 = some (.invokespecial 29) by decide +kernel) (ccp (n := 1) (m2 := 47) (ci := 2) (a := 13) (bs := [.ref t]) (r := []) (by decide +kernel) (js_cls cl_c13 (by decide)) (by decide) (by decide) (show jw_find jw_cpT 3 29 = some (1, 47) by decide +kernel) rfl rfl rfl) jm_47 ⟨Nat.le_of_ble_eq_true rfl, by decide⟩ hr ?_
  refine jr_1 jm_46 (show jw_cd cd_46 5 = some (.pop) by decide +kernel) rfl ?_
  refine jr_1 jm_46 (show jw_cd cd_46 6 = some (.aload_n 0) by decide +kernel) rfl ?_
  exact jr_v jm_46 (show jw_cd cd_46 7 = some (.areturn) by decide +kernel) rfl
