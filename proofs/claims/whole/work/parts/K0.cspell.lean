/-! ===== the class: Word.spelled (printed by program: gen112.py) ===== -/
theorem jm_132 : jw_M 132 = some (29, 2, ((Option.some (Jvm.ClassFile.FieldType.object "PickDesk$Word")), false), jw_cd cd_132, fun _ _ => none) := rfl
def wsp (i : Nat) : List Int := (jw_txL.getD (jw_spL.getD i 0 - 9) []).map Int32.toInt
theorem wsp_r {i : Nat} (hi : i < 9) : (∀ c ∈ wsp i, 0 ≤ c ∧ c ≤ 127) ∧ (wsp i).length ≤ 7 := by
  have a : ∀ t : Fin 9, (∀ c ∈ wsp t.1, 0 ≤ c ∧ c ≤ 127) ∧ (wsp t.1).length ≤ 7 := by decide +kernel
  exact a ⟨i, hi⟩
theorem jw_ala {β : Bool} {H : jx_H} : jx_arr (jz β) H (jx_big + 49) = some (100, 9, fun i => .ref (jx_big + jw_AL.getD i 0)) := rfl
theorem jw_alE {i : Nat} (hi : i < 9) : (Value.ref (jx_big + jw_AL.getD (((i : Nat) : Int)).toNat 0)) = .ref (jx_big + i) := by
  have a : ∀ t : Fin 9, jw_AL.getD t.1 0 = t.1 := by decide +kernel
  rw [Int.toNat_natCast, a ⟨i, hi⟩]
theorem jw_wc {β : Bool} {H : jx_H} {i : Nat} (hi : i < 9) : jx_cls (jz β) H (jx_big + i) = some 17 := by
  unfold jx_cls
  rw [if_neg (by omega), Nat.add_sub_cancel_left]
  exact if_pos hi
theorem jw_ws {β : Bool} {H : jx_H} {i : Nat} (hi : i < 9) : jx_get (jz β) H (jx_big + i) 0 = some (.ref (jx_big + jw_spL.getD i 0)) := by
  unfold jx_get
  rw [if_neg (by omega), Nat.add_sub_cancel_left]
  exact if_pos hi
theorem wsp_R {h : jx_H} {X : Nat → Prop} {i : Nat} (hi : i < 9) : strR h X (jx_big + jw_spL.getD i 0) (wsp i) := by
  have a : ∀ t : Fin 9, 9 ≤ jw_spL.getD t.1 0 ∧ jw_spL.getD t.1 0 - 9 < 20 := by decide +kernel
  have b := a ⟨i, hi⟩
  refine Or.inl ⟨jw_spL.getD i 0 - 9, b.2, ?_, rfl⟩
  have := b.1
  show jx_big + jw_spL.getD i 0 = jx_big + (9 + (jw_spL.getD i 0 - 9))
  have : 9 ≤ jw_spL.getD i 0 := b.1
  omega
theorem jw_alln {β : Bool} {cd : Nat → Option Instr} {own pc : Nat} {rt : Option FieldType × Bool} {lo : jx_L} {st : List Value} {H : jx_H} : jx_do (jz β) cd own pc rt .arraylength lo (.ref (jx_big + 49) :: st) H = some (.inl (pc + 1, lo, .int (Int32.ofInt 9) :: st, H)) := rfl
/-- the word as a reference -/
def wrdV (w : Int) : Value := if w = -1 then .null else .ref (jx_big + w.toNat)
def wfs (s : List Int) : Nat → Nat → Int
  | 0, _ => -1
  | f + 1, i => if wsp i = s then (i : Int) else wfs s f (i + 1)
theorem jc_spL {β : Bool} {d : Nat} {h : jx_H} {κ : mS} (hl : 50 ≤ h.length) {X : Nat → Prop} {t : Nat} {s : List Int} (ht : strR h X t s) (hs : tx s) : ∀ (f i : Nat), i + f = 9 → jx_r (jz β) jw_M (d + 2) 132 (2, [some (.ref t), some (.int (Int32.ofInt (((i : Nat) : Int))))], [], (cl_mk h κ)) (cl_mk h κ, .inl (some (wrdV (wfs s f i))))
  | 0, i, e => by
    obtain rfl : i = 9 := by omega
    show jx_r (jz β) jw_M (d + 2) 132 (2, [some (.ref t), some (.int (Int32.ofInt (((9 : Nat) : Int))))], [], (cl_mk h κ)) (cl_mk h κ, .inl (some .null))
    refine jr_1 jm_132 (show jw_cd cd_132 2 = some (.iload_n 1) by decide +kernel) rfl ?_
    refine jr_1 jm_132 (show jw_cd cd_132 3 = some (.getstatic 60) by decide +kernel) (cgs (v := .ref (jx_big + 49)) (by decide) rfl) ?_
    refine jr_1 jm_132 (show jw_cd cd_132 6 = some (.arraylength) by decide +kernel) jw_alln ?_
    refine jr_1 jm_132 (show jw_cd cd_132 7 = some (.if_icmp .ge 30) by decide +kernel) (mb_t (q := .ge) (a := ((9 : Nat) : Int)) (b := 9) (t := 37) (by show 9 ≤ ((9 : Nat) : Int); omega) ⟨by omega, by omega⟩ ⟨by omega, by omega⟩ (by decide) (by decide)) ?_
    refine jr_1 jm_132 (show jw_cd cd_132 37 = some (.aconst_null) by decide +kernel) rfl ?_
    exact jr_v jm_132 (show jw_cd cd_132 38 = some (.areturn) by decide +kernel) rfl
  | f + 1, i, e => by
    have hi : i < 9 := by omega
    have hw := wsp_R (h := h) (X := X) hi
    obtain ⟨qc, qs, b, fq, q0, q1, qa, qf⟩ := strR_q (β := β) (κ := κ) hl hw
    show jx_r (jz β) jw_M (d + 2) 132 (2, [some (.ref t), some (.int (Int32.ofInt (((i : Nat) : Int))))], [], (cl_mk h κ)) (cl_mk h κ, .inl (some (wrdV (if wsp i = s then (i : Int) else wfs s f (i + 1)))))
    by_cases he : wsp i = s
    · rw [if_pos he, show wrdV (i : Int) = .ref (jx_big + i) by unfold wrdV; rw [if_neg (by omega), Int.toNat_natCast]]
      refine jr_1 jm_132 (show jw_cd cd_132 2 = some (.iload_n 1) by decide +kernel) rfl ?_
      refine jr_1 jm_132 (show jw_cd cd_132 3 = some (.getstatic 60) by decide +kernel) (cgs (v := .ref (jx_big + 49)) (by decide) rfl) ?_
      refine jr_1 jm_132 (show jw_cd cd_132 6 = some (.arraylength) by decide +kernel) jw_alln ?_
      refine jr_1 jm_132 (show jw_cd cd_132 7 = some (.if_icmp .ge 30) by decide +kernel) (mb_f (q := .ge) (a := ((i : Nat) : Int)) (b := 9) (by show ¬ (9 ≤ ((i : Nat) : Int)); omega) ⟨by omega, by omega⟩ ⟨by omega, by omega⟩ (by decide)) ?_
      refine jr_1 jm_132 (show jw_cd cd_132 10 = some (.getstatic 60) by decide +kernel) (cgs (v := .ref (jx_big + 49)) (by decide) rfl) ?_
      refine jr_1 jm_132 (show jw_cd cd_132 13 = some (.iload_n 1) by decide +kernel) rfl ?_
      refine jr_1 jm_132 (show jw_cd cd_132 14 = some (.aaload) by decide +kernel) (cal_a (e := .ref (jx_big + i)) jw_ala (by decide) (by decide) (by omega) (by omega) (jw_alE hi)) ?_
      refine jr_1 jm_132 (show jw_cd cd_132 15 = some (.getfield 52) by decide +kernel) (cgf (jw_wc hi) (show jw_fld 29 52 17 = some 0 by decide +kernel) (jw_ws hi)) ?_
      refine jr_1 jm_132 (show jw_cd cd_132 18 = some (.aload_n 0) by decide +kernel) rfl ?_
      refine jr_c jm_132 (show jw_cd cd_132 19 = some (.invokevirtual 63) by decide +kernel) (ccv (n := 1) (m2 := 101) (ci := 9) (a := jx_big + jw_spL.getD i 0) (bs := [.ref t]) (r := []) qc (show jw_find jw_cvT 29 63 = some (1, [(9, 101)]) by decide +kernel) (by decide) rfl rfl rfl) jm_101 ⟨Nat.le_of_ble_eq_true rfl, by decide⟩ ((jc_eq hl hw ht (wsp_r hi).1 (fun c hc => by have := hs.2 c hc; omega) (by have := (wsp_r hi).2; omega) (by have := hs.1; omega)).1 he) ?_
      refine jr_1 jm_132 (show jw_cd cd_132 22 = some (.ifCond .eq 9) by decide +kernel) (mz_f (q := .eq) (a := 1) (by show ¬ (1 = 0); omega) ⟨by omega, by omega⟩ (by decide)) ?_
      refine jr_1 jm_132 (show jw_cd cd_132 25 = some (.getstatic 60) by decide +kernel) (cgs (v := .ref (jx_big + 49)) (by decide) rfl) ?_
      refine jr_1 jm_132 (show jw_cd cd_132 28 = some (.iload_n 1) by decide +kernel) rfl ?_
      refine jr_1 jm_132 (show jw_cd cd_132 29 = some (.aaload) by decide +kernel) (cal_a (e := .ref (jx_big + i)) jw_ala (by decide) (by decide) (by omega) (by omega) (jw_alE hi)) ?_
      exact jr_v jm_132 (show jw_cd cd_132 30 = some (.areturn) by decide +kernel) rfl
    · rw [if_neg he]
      refine jr_1 jm_132 (show jw_cd cd_132 2 = some (.iload_n 1) by decide +kernel) rfl ?_
      refine jr_1 jm_132 (show jw_cd cd_132 3 = some (.getstatic 60) by decide +kernel) (cgs (v := .ref (jx_big + 49)) (by decide) rfl) ?_
      refine jr_1 jm_132 (show jw_cd cd_132 6 = some (.arraylength) by decide +kernel) jw_alln ?_
      refine jr_1 jm_132 (show jw_cd cd_132 7 = some (.if_icmp .ge 30) by decide +kernel) (mb_f (q := .ge) (a := ((i : Nat) : Int)) (b := 9) (by show ¬ (9 ≤ ((i : Nat) : Int)); omega) ⟨by omega, by omega⟩ ⟨by omega, by omega⟩ (by decide)) ?_
      refine jr_1 jm_132 (show jw_cd cd_132 10 = some (.getstatic 60) by decide +kernel) (cgs (v := .ref (jx_big + 49)) (by decide) rfl) ?_
      refine jr_1 jm_132 (show jw_cd cd_132 13 = some (.iload_n 1) by decide +kernel) rfl ?_
      refine jr_1 jm_132 (show jw_cd cd_132 14 = some (.aaload) by decide +kernel) (cal_a (e := .ref (jx_big + i)) jw_ala (by decide) (by decide) (by omega) (by omega) (jw_alE hi)) ?_
      refine jr_1 jm_132 (show jw_cd cd_132 15 = some (.getfield 52) by decide +kernel) (cgf (jw_wc hi) (show jw_fld 29 52 17 = some 0 by decide +kernel) (jw_ws hi)) ?_
      refine jr_1 jm_132 (show jw_cd cd_132 18 = some (.aload_n 0) by decide +kernel) rfl ?_
      refine jr_c jm_132 (show jw_cd cd_132 19 = some (.invokevirtual 63) by decide +kernel) (ccv (n := 1) (m2 := 101) (ci := 9) (a := jx_big + jw_spL.getD i 0) (bs := [.ref t]) (r := []) qc (show jw_find jw_cvT 29 63 = some (1, [(9, 101)]) by decide +kernel) (by decide) rfl rfl rfl) jm_101 ⟨Nat.le_of_ble_eq_true rfl, by decide⟩ ((jc_eq hl hw ht (wsp_r hi).1 (fun c hc => by have := hs.2 c hc; omega) (by have := (wsp_r hi).2; omega) (by have := hs.1; omega)).2 he) ?_
      refine jr_1 jm_132 (show jw_cd cd_132 22 = some (.ifCond .eq 9) by decide +kernel) (mz_t (q := .eq) (a := 0) (t := 31) (by show 0 = 0; omega) ⟨by omega, by omega⟩ (by decide) (by decide)) ?_
      refine jr_1 jm_132 (F2 := (34, [some (.ref t), some (.int (Int32.ofInt (((i : Nat) : Int) + 1)))], [], (cl_mk h κ))) (show jw_cd cd_132 31 = some (.iinc 1 1) by decide +kernel) (mt_inc (a := ((i : Nat) : Int)) (c := ((i : Nat) : Int) + 1) rfl (by omega) rfl) ?_
      refine jr_1 jm_132 (show jw_cd cd_132 34 = some (.goto (-32)) by decide +kernel) (ju_go (t := 2) (by decide)) ?_
      exact jc_spL hl ht hs f (i + 1) (by omega)
theorem wfs_S (s : List Int) : wfs s 9 0 = wordS s := by
  have e0 : wsp 0 = wd0 := by decide +kernel
  have e1 : wsp 1 = wd1 := by decide +kernel
  have e2 : wsp 2 = wd2 := by decide +kernel
  have e3 : wsp 3 = wd3 := by decide +kernel
  have e4 : wsp 4 = wd4 := by decide +kernel
  have e5 : wsp 5 = wd5 := by decide +kernel
  have e6 : wsp 6 = wd6 := by decide +kernel
  have e7 : wsp 7 = wd7 := by decide +kernel
  have e8 : wsp 8 = wd8 := by decide +kernel
  simp only [wfs, e0, e1, e2, e3, e4, e5, e6, e7, e8]
  by_cases c0 : s = wd0
  · subst c0; decide +kernel
  by_cases c1 : s = wd1
  · subst c1; decide +kernel
  by_cases c2 : s = wd2
  · subst c2; decide +kernel
  by_cases c3 : s = wd3
  · subst c3; decide +kernel
  by_cases c4 : s = wd4
  · subst c4; decide +kernel
  by_cases c5 : s = wd5
  · subst c5; decide +kernel
  by_cases c6 : s = wd6
  · subst c6; decide +kernel
  by_cases c7 : s = wd7
  · subst c7; decide +kernel
  by_cases c8 : s = wd8
  · subst c8; decide +kernel
  rw [if_neg (fun e => c0 e.symm), if_neg (fun e => c1 e.symm), if_neg (fun e => c2 e.symm), if_neg (fun e => c3 e.symm), if_neg (fun e => c4 e.symm), if_neg (fun e => c5 e.symm), if_neg (fun e => c6 e.symm), if_neg (fun e => c7 e.symm), if_neg (fun e => c8 e.symm)]
  unfold wordS wg1 wg2
  simp only [c0, c1, c2, c3, c4, c5, c6, c7, c8, if_false, not_true]
theorem jc_spell {β : Bool} {d : Nat} {h : jx_H} {κ : mS} (hl : 50 ≤ h.length) {X : Nat → Prop} {t : Nat} {s : List Int} (ht : strR h X t s) (hs : tx s) : jx_r (jz β) jw_M (d + 2) 132 (0, [some (.ref t), none], [], (cl_mk h κ)) (cl_mk h κ, .inl (some (wrdV (wordS s)))) := by
  have hr := jc_spL (β := β) (d := d) (κ := κ) hl ht hs 9 0 rfl
  rw [wfs_S] at hr
  refine jr_1 jm_132 (show jw_cd cd_132 0 = some (.iconst 0) by decide +kernel) rfl ?_
  refine jr_1 jm_132 (F2 := (2, [some (.ref t), some (.int (Int32.ofInt (0)))], [], (cl_mk h κ))) (show jw_cd cd_132 1 = some (.istore_n 1) by decide +kernel) rfl ?_
  exact hr
