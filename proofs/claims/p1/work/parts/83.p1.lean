/-! ===== p1: the first call on a fresh object ===== -/
theorem jq_fitsE {L : Nat} {xs : Nat → Int32} {h : jx_H} (e : jw_fits h = true) : h.length ≤ 500000 ∧ jx_vol (jw_TT L xs) h ≤ 5000000 := by
  unfold jw_fits at e
  obtain ⟨e1, e2⟩ := (Bool.and_eq_true _ _).mp e
  rw [jw_volC]
  exact ⟨of_decide_eq_true e1, of_decide_eq_true e2⟩
theorem jq_volS {h : jx_H} {a : Nat} {x y : jx_C} (ho : h[a]? = some y) (e : jx_sz jw_C1 x = jx_sz jw_C1 y) : jx_vol jw_C1 (h.set a x) = jx_vol jw_C1 h := by
  unfold jx_vol
  rw [List.map_set, e]
  congr 1
  exact jl_same (by rw [List.getElem?_map, ho]; rfl)
theorem jq_fitsS {h : jx_H} {a ci : Nat} {fs gs : List Value} (ho : h[a]? = some (.inr (ci, fs))) (e : jw_fits h = true) : jw_fits (h.set a (.inr (ci, gs))) = true := by
  unfold jw_fits at e ⊢
  rw [List.length_set, jq_volS (x := .inr (ci, gs)) ho rfl]
  exact e
set_option maxRecDepth 100000 in
theorem jq_vol : decide (jx_vol jw_C1 jw_hC ≤ 100000) = true := by decide +kernel
theorem jq_fits2 : decide (jw_hC.length + 1 ≤ 500000) = true ∧ decide (jx_vol jw_C1 jw_hC + 6 ≤ 5000000) = true := by
  have e := jq_fits
  unfold jw_fits at e
  rw [jq_len]
  refine ⟨by decide, ?_⟩
  have : decide (jx_vol jw_C1 jw_hC ≤ 100000) = true := jq_vol
  exact decide_eq_true (Nat.le_trans (Nat.add_le_add_right (of_decide_eq_true this) 6) (by decide))
theorem jq_fitsP {ci : Nat} (hns : jw_ns ci = 6) : jw_fits (jw_hC ++ [.inr (ci, [])]) = true := by
  unfold jw_fits
  have e : jx_vol jw_C1 (jw_hC ++ [.inr (ci, [])]) = jx_vol jw_C1 jw_hC + 6 := by
    unfold jx_vol
    rw [List.map_append, List.sum_append]
    show _ + (jw_ns ci + 0) = _
    rw [hns]
  rw [List.length_append, e, (show ([Sum.inr (ci, [])] : jx_H).length = 1 from rfl), jq_fits2.1, jq_fits2.2]
  rfl
theorem jq_cC {L : Nat} {xs : Nat → Int32} : jx_cls (jw_TT L xs) jw_hC 0 = some 0 := (jw_clsC _ _).trans jq_c0
theorem jq_bC : jw_hC.length < jx_big := by
  rw [jq_len]
  decide
noncomputable def jq_h8 : jx_H := jw_hC ++ [.inr (8, [])]
/-- the model's refusal behind the class's -/
theorem jq_no {L : Nat} {xs : Nat → Int32} {fs : List Value} (ho : jw_hC[(15 : Nat)]? = some (.inr (16, fs))) (hu : fs[0]? = some (.int 0)) {gs : List Value} (hg : gs = fs.set 0 (.int 1)) : jx_cls (jw_TT L xs) jq_h8 15 = some 16 ∧ jx_cls (jw_TT L xs) (jq_h8.set 15 (.inr (16, gs))) 15 = some 16 ∧ jw_su L xs 209 [.ref 15] (jq_h8.set 15 (.inr (16, gs))) (jq_h8.set 15 (.inr (16, gs)), .inl (some (.int 1))) ∧ jw_fits (jq_h8.set 15 (.inr (16, gs))) = true := by
  have hp : jq_h8[(15 : Nat)]? = some (.inr (16, fs)) := js_push (x := (.inr (8, []) : jx_C)) ho
  have hp2 : (jq_h8.set 15 (.inr (16, gs)))[(15 : Nat)]? = some (.inr (16, gs)) := js_set_eq hp
  have hlt : 0 < fs.length := (List.getElem?_eq_some_iff.mp hu).1
  refine ⟨js_cls hp (by decide), js_cls hp2 (by decide), ?_, jq_fitsS hp (jq_fitsP (by decide))⟩
  refine jw_suR (d := 0) jm_209 (Nat.le_refl 1) (by decide) (by decide) ?_
  exact jm_thrown (f := 0) hp2 (by decide) (by decide +kernel) (by rw [hg]; exact List.getElem?_set_self hlt)
theorem jq_hw : ∀ a : Nat, (fun _ : Nat => true) a = true := fun _ => rfl
theorem jq_op0 {L : Nat} {xs : Nat → Int32} (x : Int32) : ∃ h', jw_op L xs 15 49 0 x jw_hC h' ∧ jw_fits h' = true := by
  by_cases hx : x < 32 ∨ ¬ x ≤ 126
  · obtain ⟨fs, ho, hu⟩ := jw_fi_ok jq_f0.1
    obtain ⟨fs', ho', hv⟩ := jw_fi_ok jq_f0.2.1
    obtain rfl : fs' = fs := by
      rw [ho] at ho'
      cases ho'
      rfl
    have hp : jq_h8[(15 : Nat)]? = some (.inr (16, fs')) := js_push (x := (.inr (8, []) : jx_C)) ho
    obtain ⟨n1, n2, n3, n4⟩ := jq_no (L := L) (xs := xs) ho hu rfl
    refine ⟨_, ⟨_, _, 1, 0, jh_letter_8 jq_cC jq_bC (jw_shX (d := 0) jm_114 (Nat.le_refl 2) (by decide) (by decide) jq_bC (by decide) ?_), n1, jw_suR (d := 0) jm_210 (Nat.le_refl 2) (by decide) (by decide) ?_, n2, n3, fun h => absurd h (by decide)⟩, n4⟩
    · by_cases h1 : x < 32
      · exact jm_letter_lo jq_bC h1
      · exact jm_letter_hi jq_bC h1 (hx.resolve_left h1)
    · by_cases h1 : x < 32
      · exact jm_mletter_lo jq_hw hp (by decide) hu hv h1
      · exact jm_mletter_hi jq_hw hp (by decide) hu hv h1 (hx.resolve_left h1)
  · have h1 : ¬ x < 32 := fun h => hx (Or.inl h)
    have h2 : x ≤ 126 := Decidable.byContradiction fun h => hx (Or.inr h)
    rw [Int32.lt_iff_toInt_lt] at h1
    rw [Int32.le_iff_toInt_le] at h2
    have e32 : (32 : Int32).toInt = 32 := by decide
    have e126 : (126 : Int32).toInt = 126 := by decide
    rw [e32] at h1
    rw [e126] at h2
    have ex : x = Int32.ofNat (32 + (x.toInt.toNat - 32)) := by
      apply Int32.toInt_inj.mp
      rw [show 32 + (x.toInt.toNat - 32) = x.toInt.toNat from by omega, Int32.toInt_ofNat_of_lt (by omega)]
      omega
    have hc := List.all_eq_true.mp jq_letters (x.toInt.toNat - 32) (List.mem_range.mpr (by omega))
    rw [← ex] at hc
    obtain ⟨h1, h2, h', v, f, g, q0, q1, q2, q3, q4, q5, q6, q7, q8, q9⟩ := jw_chkH_ok (L := L) (xs := xs) hc
    exact ⟨h', ⟨_, h2, 0, v, jh_letter q0 q1 q2 (by decide), q3, q4, q5, q6, fun _ => ⟨g, q7, q8⟩⟩, q9⟩
theorem jq_op2 {L : Nat} {xs : Nat → Int32} (x : Int32) : ∃ h', jw_op L xs 15 49 2 x jw_hC h' ∧ jw_fits h' = true := by
  obtain ⟨h1, h2, h', v, f, g, q0, q1, q2, q3, q4, q5, q6, q7, q8, q9⟩ := jw_chkH_ok (L := L) (xs := xs) jq_query
  exact ⟨h', ⟨_, h2, 0, v, jh_query q0 q1 q2 (by decide), q3, q4, q5, q6, fun _ => ⟨g, q7, q8⟩⟩, q9⟩
theorem jq_op3 {L : Nat} {xs : Nat → Int32} (x : Int32) : ∃ h', jw_op L xs 15 49 3 x jw_hC h' ∧ jw_fits h' = true := by
  have hx : x < 0 ∨ ¬ x < 0 := Decidable.em _
  obtain ⟨fs, ho, hu⟩ := jw_fi_ok jq_f0.1
  obtain ⟨fs', ho', hv⟩ := jw_fi_ok jq_f0.2.2
  obtain rfl : fs' = fs := by
    rw [ho] at ho'
    cases ho'
    rfl
  obtain ⟨gs, go, gv⟩ := jw_fi_ok jq_f5
  have hp : jq_h8[(15 : Nat)]? = some (.inr (16, fs')) := js_push (x := (.inr (8, []) : jx_C)) ho
  obtain ⟨n1, n2, n3, n4⟩ := jq_no (L := L) (xs := xs) ho hu rfl
  exact ⟨_, ⟨_, _, 1, 0, jh_run_8 jq_cC jq_bC (jw_shX (d := 0) jm_157 (Nat.le_refl 2) (by decide) (by decide) jq_bC (by decide) (jm_run_no jq_bC go gv hx)), n1, jw_suR (d := 0) jm_245 (by decide : (2 : Nat) ≤ 8) (by decide) (by decide) (jm_mrun_no jq_hw hp (by decide) hu hv hx), n2, n3, fun h => absurd h (by decide)⟩, n4⟩
theorem jq_m0 : ∃ fs, jw_hC[(15 : Nat)]? = some (.inr (16, fs)) ∧ fs[0]? = some (.int 0) := jw_fi_ok jq_f0.1
theorem jq_small {x : Int32} (h : ¬ (x.toInt < 0 ∨ 3 < x.toInt)) : x = 0 ∨ x = 1 ∨ x = 2 ∨ x = 3 := by
  have h : x.toInt = 0 ∨ x.toInt = 1 ∨ x.toInt = 2 ∨ x.toInt = 3 := by omega
  rcases h with h | h | h | h
  · exact Or.inl (Int32.toInt_inj.mp h)
  · exact Or.inr (Or.inl (Int32.toInt_inj.mp h))
  · exact Or.inr (Or.inr (Or.inl (Int32.toInt_inj.mp h)))
  · exact Or.inr (Or.inr (Or.inr (Int32.toInt_inj.mp h)))
theorem jq_op5 {L : Nat} {xs : Nat → Int32} (x : Int32) : ∃ h', jw_op L xs 15 49 5 x jw_hC h' ∧ jw_fits h' = true := by
  by_cases hx : x.toInt < 0 ∨ 3 < x.toInt
  · obtain ⟨fs, ho, hu⟩ := jq_m0
    exact ⟨_, ⟨_, -1, jq_cC, jw_suR (d := 0) jm_107 (Nat.le_refl 2) (by decide) (by decide) (jm_107_d hx), js_cls ho (by decide), jw_suR (d := 0) jm_274 (Nat.le_refl 2) (by decide) (by decide) (jm_274_d jq_hw ho (by decide) hu hx)⟩, jq_fitsS ho jq_fits⟩
  · obtain ⟨e, e3⟩ := (Bool.and_eq_true _ _).mp jw_p_result
    obtain ⟨e, e2⟩ := (Bool.and_eq_true _ _).mp e
    obtain ⟨e0, e1⟩ := (Bool.and_eq_true _ _).mp e
    rcases jq_small hx with rfl | rfl | rfl | rfl
    · obtain ⟨h1, h2, k, q0, q1, q2, q3, q4⟩ := jw_chkP_ok (L := L) (xs := xs) e0
      exact ⟨h2, ⟨h1, k, q0, q1, q2, q3⟩, q4⟩
    · obtain ⟨h1, h2, k, q0, q1, q2, q3, q4⟩ := jw_chkP_ok (L := L) (xs := xs) e1
      exact ⟨h2, ⟨h1, k, q0, q1, q2, q3⟩, q4⟩
    · obtain ⟨h1, h2, k, q0, q1, q2, q3, q4⟩ := jw_chkP_ok (L := L) (xs := xs) e2
      exact ⟨h2, ⟨h1, k, q0, q1, q2, q3⟩, q4⟩
    · obtain ⟨h1, h2, k, q0, q1, q2, q3, q4⟩ := jw_chkP_ok (L := L) (xs := xs) e3
      exact ⟨h2, ⟨h1, k, q0, q1, q2, q3⟩, q4⟩
theorem jq_op7 {L : Nat} {xs : Nat → Int32} (x : Int32) : ∃ h', jw_op L xs 15 49 7 x jw_hC h' ∧ jw_fits h' = true := by
  by_cases hx : x.toInt < 0 ∨ 3 < x.toInt
  · obtain ⟨fs, ho, hu⟩ := jq_m0
    exact ⟨_, ⟨_, -1, jq_cC, jw_suR (d := 0) jm_112 (Nat.le_refl 2) (by decide) (by decide) (jm_112_d hx), js_cls ho (by decide), jw_suR (d := 0) jm_281 (Nat.le_refl 2) (by decide) (by decide) (jm_281_d jq_hw ho (by decide) hu hx)⟩, jq_fitsS ho jq_fits⟩
  · obtain ⟨e, e3⟩ := (Bool.and_eq_true _ _).mp jw_p_about
    obtain ⟨e, e2⟩ := (Bool.and_eq_true _ _).mp e
    obtain ⟨e0, e1⟩ := (Bool.and_eq_true _ _).mp e
    rcases jq_small hx with rfl | rfl | rfl | rfl
    · obtain ⟨h1, h2, k, q0, q1, q2, q3, q4⟩ := jw_chkP_ok (L := L) (xs := xs) e0
      exact ⟨h2, ⟨h1, k, q0, q1, q2, q3⟩, q4⟩
    · obtain ⟨h1, h2, k, q0, q1, q2, q3, q4⟩ := jw_chkP_ok (L := L) (xs := xs) e1
      exact ⟨h2, ⟨h1, k, q0, q1, q2, q3⟩, q4⟩
    · obtain ⟨h1, h2, k, q0, q1, q2, q3, q4⟩ := jw_chkP_ok (L := L) (xs := xs) e2
      exact ⟨h2, ⟨h1, k, q0, q1, q2, q3⟩, q4⟩
    · obtain ⟨h1, h2, k, q0, q1, q2, q3, q4⟩ := jw_chkP_ok (L := L) (xs := xs) e3
      exact ⟨h2, ⟨h1, k, q0, q1, q2, q3⟩, q4⟩
theorem jq_op6 {L : Nat} {xs : Nat → Int32} (x : Int32) : ∃ h', jw_op L xs 15 49 6 x jw_hC h' ∧ jw_fits h' = true := by
  obtain ⟨fs, ho, hu⟩ := jq_m0
  by_cases h0 : x < 0
  · exact ⟨_, ⟨_, -1, jq_cC, jw_suR (d := 0) jm_109 (Nat.le_refl 2) (by decide) (by decide) (jq_w109_lo h0), js_cls ho (by decide), jw_suR (d := 101) jm_280 (Nat.le_refl 2) (by decide) (by decide) (jq_w280 jq_f0.1 jq_w.1 jq_w.2.1 (Or.inl h0))⟩, jq_w.2.2⟩
  · by_cases h1 : x < 1
    · obtain rfl : x = 0 := by
        rw [Int32.lt_iff_toInt_lt] at h0 h1
        apply Int32.toInt_inj.mp
        have e0 : (0 : Int32).toInt = 0 := by decide
        have e1 : (1 : Int32).toInt = 1 := by decide
        rw [e0] at h0 ⊢
        rw [e1] at h1
        omega
      obtain ⟨q1, q2, q3, q4⟩ := jq_w0 (jw_bt L xs)
      exact ⟨_, ⟨_, 110, jq_cC, jw_evB_su q1, (jw_clsC _ _).trans q2, jw_ev_su q3⟩, q4⟩
    · obtain ⟨gs, go, gv⟩ := jw_fi_ok jq_wL.2.2.2
      exact ⟨_, ⟨_, -1, jq_cC, jw_suR (d := 101) jm_109 (Nat.le_refl 2) (by decide) (by decide) (jq_w109_hi h0 h1), js_cls go (by decide), jw_suR (d := 101) jm_280 (Nat.le_refl 2) (by decide) (by decide) (jq_w280 jq_wL.2.2.2 jq_wL.1 jq_wL.2.1 (Or.inr h1))⟩, jq_wL.2.2.1⟩
theorem jq_op {L : Nat} {xs : Nat → Int32} (c : Nat) (h8 : c < 8) (x : Int32) : ∃ h', jw_op L xs 15 49 c x jw_hC h' ∧ jw_fits h' = true := by
  match c, h8 with
  | 0, _ => exact jq_op0 x
  | 1, _ =>
    obtain ⟨h1, h2, k, q0, q1, q2, q3, q4⟩ := jw_chkP_ok (L := L) (xs := xs) jw_p_load
    exact ⟨h2, ⟨h1, k, q0, q1, q2, q3⟩, q4⟩
  | 2, _ => exact jq_op2 x
  | 3, _ => exact jq_op3 x
  | 4, _ =>
    obtain ⟨h1, h2, k, q0, q1, q2, q3, q4⟩ := jw_chkP_ok (L := L) (xs := xs) jw_p_keep
    exact ⟨h2, ⟨h1, k, q0, q1, q2, q3⟩, q4⟩
  | 5, _ => exact jq_op5 x
  | 6, _ => exact jq_op6 x
  | 7, _ => exact jq_op7 x
  | n + 8, h8 => exact absurd h8 (by omega)
theorem jq_fin (L : Nat) (xs : Nat → Int32) (hL : L ≤ 2) : jw_run L xs := by
  refine jv_start (h1 := jw_hA) (h2 := jw_hB) (by rw [jw_hA_len]; decide) (by rw [jw_hB_49]; decide) (jw_suR (d := 100) (E := me_0.1) rfl (by decide) (by decide) (by decide) ⟨4000, jw_void_ok jw_z0_ok⟩) ?_ ?_
  · rw [jw_hA_len]
    exact jw_suR (d := 100) (E := me_207.1) rfl (by decide) (by decide) (by decide) ⟨4000, jw_void_ok jw_z1_ok⟩
  · rw [jw_hA_len, jw_hB_49]
    refine jv_loop (I := fun n h => (n = 0 ∧ h = jw_hC) ∨ (n = 2 ∧ jw_fits h = true)) (by omega) (fun n h c hi hn h8 hc => ?_) (fun n h hi => ?_) 1 0 _ _ _ (by omega) (by omega) (Or.inl ⟨rfl, rfl⟩)
    · rcases hi with ⟨rfl, rfl⟩ | ⟨rfl, -⟩
      · obtain ⟨h', q1, q2⟩ := jq_op (L := L) (xs := xs) c h8 (xs 1)
        exact ⟨h', q1, Or.inr ⟨rfl, q2⟩⟩
      · exact absurd hn (by omega)
    · rcases hi with ⟨-, rfl⟩ | ⟨-, hf⟩
      · obtain ⟨q1, q2⟩ := jq_fitsE (L := L) (xs := xs) jq_fits
        exact ⟨by omega, by omega⟩
      · obtain ⟨q1, q2⟩ := jq_fitsE (L := L) (xs := xs) hf
        exact ⟨by omega, by omega⟩
