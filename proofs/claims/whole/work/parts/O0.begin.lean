/-! ===== the beginning: both objects are new ===== -/
def bg_k : mS := fun f i => match f with
  | 1 => 7
  | 2 => 7
  | 5 => -1
  | 11 => -1
  | 12 => 1
  | 13 => 14
  | 14 => if i = 0 then 110 else 0
  | _ => 0
def bg_s : mS := fun f i => match f with
  | 6 => if i = 0 ∨ i = 170 then -1 else 0
  | 11 => if i = 0 ∨ i = 1 then 1 else 0
  | 14 => 170
  | _ => 0
def bg_g : jx_H := ml_mk (List.replicate 49 (.inr (0, [])) ++ [.inl (1, 1, fun _ => .long 0)]) bg_s
def bg_h : jx_H := (((((((cl_mk bg_g bg_k).set 14 (.inl (3, 16, updV (fun _ => .int 0) 0 (.int 110)))).set 17 (.inl (0, 1740, updV (updV (fun _ => .int 0) 0 (.int 0)) 170 (.int 0)))).set 18 (.inl (0, 1740, updV (updV (fun _ => .int 0) 0 (.int 0)) 170 (.int 0)))).set 19 (.inl (1, 1740, updV (updV (fun _ => .long 0) 0 (.long 0)) 170 (.long 0)))).set 20 (.inl (0, 1740, updV (updV (fun _ => .int 0) 0 (.int (-1))) 170 (.int (-1))))).set 21 (.inl (0, 1740, updV (updV (fun _ => .int 0) 0 (.int 0)) 170 (.int 0)))).set 25 (.inl (0, 5, updV (updV (fun _ => .int 0) 0 (.int 1)) 1 (.int 1)))
set_option maxRecDepth 100000 in
theorem bg_e : jw_hC = bg_h := by eq_refl
theorem bg_same {l : List jx_C} {a : Nat} {y : jx_C} (h : l[a]? = some y) : l.set a y = l := by
  apply List.ext_getElem?
  intro b
  by_cases e : b = a
  · subst e
    rw [h]
    exact List.getElem?_set_self (List.getElem?_eq_some_iff.mp h).1
  · rw [List.getElem?_set_ne (fun z => e z.symm)]
theorem bg_len : bg_g.length = 50 := by decide +kernel
theorem bg_c (z : Value) (a b : Nat) : updV (updV (fun _ => z) a z) b z = fun _ => z := by
  funext i
  by_cases h1 : i = b
  · rw [h1, updV_at]
  · rw [updV_ne _ _ h1]
    by_cases h2 : i = a
    · rw [h2, updV_at]
    · rw [updV_ne _ _ h2]
theorem bg_row {f : Nat} (hf : ml_isA f = true) : (cl_mk bg_g bg_k)[ml_ad f]? = some (.inl (ml_et f, ml_n f, ml_ev bg_s f)) := by
  have e := bg_len
  have h47 : f < 47 := of_decide_eq_true ((Bool.and_eq_true _ _).mp hf).2
  have h1 := (ml_adP f h47 hf).1
  rw [cl_dy (by omega) (by omega)]
  exact ml_at (by decide) hf
theorem bg_14 : (cl_mk bg_g bg_k)[14]? = some (.inl (3, 16, updV (fun _ => .int 0) 0 (.int 110))) := by
  rw [cl_c14]
  have e : (fun i : Nat => Value.int (Int32.ofInt (bg_k 14 i))) = updV (fun _ => .int 0) 0 (.int 110) := by
    funext i
    by_cases h1 : i = 0
    · rw [h1, updV_at]
      rfl
    · rw [updV_ne _ _ h1]
      show Value.int (Int32.ofInt (if ((i : Nat) : Int) = 0 then 110 else 0)) = .int 0
      rw [if_neg (by omega)]
      rfl
  rw [e]
theorem bg_20 : ml_ev bg_s 6 = updV (updV (fun _ => .int 0) 0 (.int (-1))) 170 (.int (-1)) := by
  funext i
  show Value.int (Int32.ofInt (if ((i : Nat) : Int) = 0 ∨ ((i : Nat) : Int) = 170 then -1 else 0)) = _
  by_cases h1 : i = 170
  · rw [h1, updV_at]
    rfl
  · rw [updV_ne _ _ h1]
    by_cases h2 : i = 0
    · rw [h2, updV_at]
      rfl
    · rw [updV_ne _ _ h2, if_neg (by omega)]
      rfl
theorem bg_25 : ml_ev bg_s 11 = updV (updV (fun _ => .int 0) 0 (.int 1)) 1 (.int 1) := by
  funext i
  show Value.int (Int32.ofInt (if ((i : Nat) : Int) = 0 ∨ ((i : Nat) : Int) = 1 then 1 else 0)) = _
  by_cases h1 : i = 1
  · rw [h1, updV_at]
    rfl
  · rw [updV_ne _ _ h1]
    by_cases h2 : i = 0
    · rw [h2, updV_at]
      rfl
    · rw [updV_ne _ _ h2, if_neg (by omega)]
      rfl
theorem bg_eq : jw_hC = cl_mk bg_g bg_k := by
  rw [bg_e]
  unfold bg_h
  rw [bg_c (.int 0) 0 170, bg_c (.long 0) 0 170, ← bg_20, ← bg_25, bg_same bg_14]
  have e17 : (cl_mk bg_g bg_k)[17]? = some (.inl (0, 1740, fun _ => .int 0)) := bg_row (f := 3) rfl
  have e18 : (cl_mk bg_g bg_k)[18]? = some (.inl (0, 1740, fun _ => .int 0)) := bg_row (f := 4) rfl
  have e19 : (cl_mk bg_g bg_k)[19]? = some (.inl (1, 1740, fun _ => .long 0)) := bg_row (f := 5) rfl
  have e20 : (cl_mk bg_g bg_k)[20]? = some (.inl (0, 1740, ml_ev bg_s 6)) := bg_row (f := 6) rfl
  have e21 : (cl_mk bg_g bg_k)[21]? = some (.inl (0, 1740, fun _ => .int 0)) := bg_row (f := 7) rfl
  have e25 : (cl_mk bg_g bg_k)[25]? = some (.inl (0, 5, ml_ev bg_s 11)) := bg_row (f := 11) rfl
  rw [bg_same e17, bg_same e18, bg_same e19, bg_same e20, bg_same e21, bg_same e25]
theorem bg_m : mdR bg_s 0 nulV nulV [] := by
  refine ⟨rfl, tOK_0 _, ⟨rfl, ⟨⟨by decide, by decide⟩, ⟨rfl, rfl, rfl, rfl⟩, rfl⟩, nulV_I⟩, ⟨rfl, ⟨⟨by decide, by decide⟩, ⟨rfl, rfl, rfl, rfl⟩, rfl⟩, nulV_I⟩, rfl, Nat.zero_le _, fun j l h => ?_⟩
  cases h
theorem bg_cd : cdS bg_g bg_k (bg_s 1) 0 nulV nulV [] 14 16 (fun i => .int (Int32.ofInt (bg_k 14 i))) := by
  refine ⟨cP_0 _ ⟨rfl, rfl, rfl⟩, ⟨by decide, by decide⟩, rfl, vR_nul, vR_nul, ⟨rfl, rfl, Or.inl rfl, cl_c14, by decide, Or.inl rfl, fun i => ⟨bg_k 14 i, rfl, ?_⟩, fun i hi => ?_⟩, fun j l h => ?_⟩
  · show 0 ≤ (if ((i : Nat) : Int) = 0 then 110 else 0 : Int) ∧ (if ((i : Nat) : Int) = 0 then 110 else 0 : Int) ≤ 127
    split <;> omega
  · have hi : i < 1 := hi
    obtain rfl : i = 0 := by omega
    rfl
  · cases h
theorem bg_v : cvol bg_g ≤ 59000 := by decide +kernel
theorem bg_I : jI 0 jw_hC := by
  have e := bg_len
  have v := bg_v
  rw [bg_eq]
  refine ⟨bg_g, bg_s, bg_k, 0, nulV, nulV, [], 14, 16, _, fun _ => .long 0, 12, 0, 0, rfl, ml_idem (by decide), by omega, ?_, bg_m, bg_cd, ⟨vl_nul, vl_nul, by decide, by decide, by decide⟩, ⟨by decide, by decide, by decide⟩, ?_, ?_⟩
  · exact ml_other (by decide) (Or.inr (by decide))
  · rw [e]
    decide
  · have s : sbV 16 = 532 := rfl
    rw [s]
    omega
theorem jw_fin (L : Nat) (xs : Nat → Int32) (hL : L ≤ 1024) : jw_run L xs := by
  refine jv_start (h1 := jw_hA) (h2 := jw_hB) (by rw [jw_hA_len]; decide) (by rw [jw_hB_49]; decide) (jw_suR (d := 100) (E := me_0.1) rfl (by decide) (by decide) (by decide) ⟨4000, jw_void_ok jw_z0_ok⟩) ?_ ?_
  · rw [jw_hA_len]
    exact jw_suR (d := 100) (E := me_207.1) rfl (by decide) (by decide) (by decide) ⟨4000, jw_void_ok jw_z1_ok⟩
  · rw [jw_hA_len, jw_hB_49]
    exact jv_loop (I := jI) hL (fun n h c hi hn h8 hc => op_all c h8 (xs (n + 1)) hi (by omega)) (fun n h hi => jI_end hi) 600 0 _ _ _ (by omega) (by omega) bg_I
