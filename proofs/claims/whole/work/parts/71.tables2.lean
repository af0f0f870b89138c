/-! ===== tables without the script ===== -/
theorem jx_le_of {T T' : jx_T} (h_fld : jx_fld T' = jx_fld T) (h_nw : jx_nw T' = jx_nw T) (h_an : jx_an T' = jx_an T) (h_kc : jx_kc T' = jx_kc T) (h_sv : ∀ own k v, jx_sv T' own k = some v → jx_sv T own k = some v) (h_cv : jx_cv T' = jx_cv T) (h_cp : jx_cp T' = jx_cp T) (h_cs : jx_cs T' = jx_cs T) (h_ct : jx_ct T' = jx_ct T) (h_tk : jx_tk T' = jx_tk T) (h_xc : jx_xc T' = jx_xc T) (h_oi : jx_oi T' = jx_oi T) (h_bi : jx_bi T' = jx_bi T) (h_ay : jx_ay T' = jx_ay T) (h_nf : jx_nf T' = jx_nf T) (h_ns : jx_ns T' = jx_ns T) (h_ft : jx_ft T' = jx_ft T) (h_fm : jx_fm T' = jx_fm T) (h_ty : jx_ty T' = jx_ty T) (h_ocl : jx_ocl T' = jx_ocl T) (h_ofl : jx_ofl T' = jx_ofl T) (h_no : jx_no T' = jx_no T) (hw : ∀ a, jx_wr T' a = true → jx_wr T a = true) (ho : ∀ j x, jx_oar T' j = some x → jx_oar T j = some x) : jx_le T' T := by
  have hcls : jx_cls T' = jx_cls T := by
    funext h a
    simp only [jx_cls, h_ocl]
  have hget : jx_get T' = jx_get T := by
    funext h a k
    simp only [jx_get, h_ofl]
  have hmay : jx_may T' = jx_may T := by
    funext h t v
    cases v <;> simp only [jx_may, hcls, h_tk]
  have hne : jx_ne T' = jx_ne T := by
    funext x y
    simp only [jx_ne, h_no]
  have hnewa : jx_newa T' = jx_newa T := rfl
  refine ⟨fun cd own pc rt i lo st h x hdo => ?_, fun h a ci hc => by rw [← hcls]; exact hc⟩
  have harr : ∀ a y, jx_arr T' h a = some y → jx_arr T h a = some y := by
    intro a y ha
    unfold jx_arr at ha ⊢
    split at ha
    · rename_i hb
      rw [if_pos hb]
      exact ha
    · rename_i hb
      rw [if_neg hb]
      exact ho _ _ ha
  have hald : ∀ ok, jx_ald T' ok pc lo st h = some x → jx_ald T ok pc lo st h = some x := by
    intro ok ha
    unfold jx_ald at ha ⊢
    split at ha
    · rename_i j a r
      cases hb : jx_arr T' h a with
      | none => rw [hb] at ha; cases ha
      | some y =>
        rw [hb] at ha
        rw [harr _ _ hb]
        rw [h_ty] at ha
        exact ha
    · cases ha
  have hast : ∀ ok v j a pc lo r, jx_ast T' ok v j a pc lo r h = some x → jx_ast T ok v j a pc lo r h = some x := by
    intro ok v j a pc lo r ha
    unfold jx_ast at ha ⊢
    rw [h_ty] at ha
    cases hb : h[a]? with
    | none => rw [hb] at ha; cases ha
    | some y =>
      rw [hb] at ha
      rcases y with ⟨t, n, f⟩ | z
      · dsimp only at ha ⊢
        cases hty : jx_ty T t with
        | none => rw [hty] at ha; cases ha
        | some ty =>
          rw [hty] at ha
          dsimp only at ha ⊢
          split at ha
          · rename_i hc
            simp only [Bool.and_eq_true] at hc
            rw [if_pos (by simp only [Bool.and_eq_true]; exact ⟨hc.1, hw _ hc.2.1, hc.2.2⟩)]
            exact ha
          · cases ha
      · cases ha
  have hcpy : ∀ {n dp : Int32} {a : Nat} {sp : Int32} {a0 : Nat} {r : List Value}, jx_cpy T' n dp a sp a0 pc lo r h = some x → jx_cpy T n dp a sp a0 pc lo r h = some x := by
    intro n dp a sp a0 r ha
    unfold jx_cpy at ha ⊢
    rw [h_ty] at ha
    cases hb : h[a]? with
    | none => rw [hb] at ha; cases ha
    | some y =>
      rw [hb] at ha
      rcases y with ⟨t, n1, g⟩ | z
      · dsimp only at ha ⊢
        cases h0 : jx_arr T' h a0 with
        | none => rw [h0] at ha; cases ha
        | some y =>
          rw [h0] at ha
          rw [harr _ _ h0]
          obtain ⟨t0, n0, f⟩ := y
          dsimp only at ha ⊢
          cases hty : jx_ty T t with
          | none => rw [hty] at ha; cases ha
          | some ty =>
            rw [hty] at ha
            dsimp only at ha ⊢
            have ecp : jx_cpok T' = jx_cpok T := by
              funext h t ty v
              simp only [jx_cpok, hmay]
            rw [ecp] at ha
            split at ha
            · rename_i hc
              simp only [Bool.and_eq_true] at hc
              rw [if_pos (by simp only [Bool.and_eq_true]; exact ⟨hc.1, hc.2.1, hw _ hc.2.2.1, hc.2.2.2⟩)]
              exact ha
            · cases ha
      · cases ha
  cases i
  case invokestatic k =>
    simp only [jx_do, h_bi, h_cs] at hdo ⊢
    cases hbi : jx_bi T own k with
    | none => rw [hbi] at hdo; exact hdo
    | some b =>
      rw [hbi] at hdo
      dsimp only at hdo ⊢
      split at hdo
      · rename_i hb2
        rw [if_pos hb2]
        split at hdo
        · exact hcpy hdo
        · cases hdo
      · rename_i hb2
        rw [if_neg hb2]
        exact hdo
  case getstatic k =>
    simp only [jx_do] at hdo ⊢
    cases hk : jx_sv T' own k with
    | none => rw [hk] at hdo; cases hdo
    | some v =>
      rw [hk] at hdo
      rw [h_sv own k v hk]
      exact hdo
  case iaload => exact hald _ hdo
  case laload => exact hald _ hdo
  case caload => exact hald _ hdo
  case baload => exact hald _ hdo
  case aaload => exact hald _ hdo
  case iastore =>
    simp only [jx_do] at hdo ⊢
    split at hdo
    · exact hast _ _ _ _ _ _ _ hdo
    · cases hdo
  case lastore =>
    simp only [jx_do] at hdo ⊢
    split at hdo
    · exact hast _ _ _ _ _ _ _ hdo
    · cases hdo
  case castore =>
    simp only [jx_do] at hdo ⊢
    split at hdo
    · exact hast _ _ _ _ _ _ _ hdo
    · cases hdo
  case bastore =>
    simp only [jx_do] at hdo ⊢
    split at hdo
    · exact hast _ _ _ _ _ _ _ hdo
    · cases hdo
  case aastore =>
    simp only [jx_do] at hdo ⊢
    split at hdo
    · rename_i v j a r
      cases hb : jx_arr T' h a with
      | none => rw [hb] at hdo; cases hdo
      | some y =>
        rw [hb] at hdo
        rw [harr _ _ hb]
        obtain ⟨t, n, f⟩ := y
        dsimp only at hdo ⊢
        rw [hmay] at hdo
        split at hdo
        · rename_i hm
          rw [if_pos hm]
          exact hast _ _ _ _ _ _ _ hdo
        · cases hdo
    · cases hdo
  case arraylength =>
    simp only [jx_do] at hdo ⊢
    split at hdo
    · rename_i a r
      cases hb : jx_arr T' h a with
      | none => rw [hb] at hdo; cases hdo
      | some y =>
        rw [hb] at hdo
        rw [harr _ _ hb]
        rw [h_ty] at hdo
        exact hdo
    · cases hdo
  case putfield k =>
    simp only [jx_do, h_fld, h_ft, h_fm] at hdo ⊢
    split at hdo
    · rename_i v a r
      cases hb : h[a]? with
      | none => rw [hb] at hdo; cases hdo
      | some y =>
        rw [hb] at hdo
        rcases y with z | ⟨ci, fs⟩
        · cases hdo
        · dsimp only at hdo ⊢
          cases hf : jx_fld T own k ci with
          | none => rw [hf] at hdo; cases hdo
          | some f =>
            rw [hf] at hdo
            dsimp only at hdo ⊢
            cases hty : jx_ft T ci f with
            | none => rw [hty] at hdo; cases hdo
            | some ty =>
              rw [hty] at hdo
              cases hfm : jx_fm T own ci f with
              | none => rw [hfm] at hdo; cases hdo
              | some fin =>
                rw [hfm] at hdo
                dsimp only at hdo ⊢
                split at hdo
                · rename_i hc
                  simp only [Bool.and_eq_true] at hc
                  rw [if_pos (by simp only [Bool.and_eq_true]; exact ⟨hc.1, hw _ hc.2.1, hc.2.2⟩)]
                  exact hdo
                · cases hdo
    · cases hdo
  all_goals first | exact hdo | (simp only [jx_do, h_fld, h_nw, h_an, h_kc, h_cv, h_cp, h_cs, h_ct, h_tk, h_xc, h_oi, h_bi, h_ay, h_nf, h_ns, h_ft, h_fm, h_ty, h_ocl, h_ofl, h_no, hcls, hget, hmay, hne, hnewa] at hdo ⊢; exact hdo)
def jw_oc (j : Nat) : Option (Nat × Nat × (Nat → Value)) := if j < 54 then jw_oar 0 (fun _ => 0) j else none
/-- the tables without the script -/
def jw_TC (wr : Nat → Bool) : jx_T :=
  (jw_fld, jw_find jw_nwT, jw_find jw_anT, jw_kcB, jw_find jw_svT, jw_cv, jw_cp, jw_find jw_csT, jw_ct, jw_tk, jw_find jw_xcT, jw_oi, jw_biB, jw_ay, jw_nf, jw_ns, jw_ft, jw_fm, wr, jw_ty, jw_ocl, jw_ofl, jw_oc, (9, 29, 55))
theorem jw_oc_le {L : Nat} {xs : Nat → Int32} (j : Nat) (x : Nat × Nat × (Nat → Value)) (h : jw_oc j = some x) : jw_oar L xs j = some x := by
  unfold jw_oc at h
  split at h
  · rename_i hj
    unfold jw_oar at h ⊢
    split at h
    · cases h
    · rename_i h29
      rw [if_neg h29]
      split at h
      · rename_i h49
        rw [if_pos h49]
        exact h
      · rename_i h49
        rw [if_neg h49]
        obtain e | e | e | e | e : j - 49 = 0 ∨ j - 49 = 1 ∨ j - 49 = 2 ∨ j - 49 = 3 ∨ j - 49 = 4 := by omega
        all_goals
          rw [e] at h ⊢
          exact h
  · cases h
/-- the same with the one static that is null or some reference -/
def jw_TB (β : Bool) (wr : Nat → Bool) : jx_T :=
  (jw_fld, jw_find jw_nwT, jw_find jw_anT, jw_kcB, jw_svB β, jw_cv, jw_cp, jw_find jw_csT, jw_ct, jw_tk, jw_find jw_xcT, jw_oi, jw_biB, jw_ay, jw_nf, jw_ns, jw_ft, jw_fm, wr, jw_ty, jw_ocl, jw_ofl, jw_oc, (9, 29, 55))
theorem jw_svB_le {β : Bool} {own k : Nat} {v : Value} (h : jw_find jw_svT own k = some v) : jw_svB β own k = some v := by
  unfold jw_svB
  cases hc : (own == 15 && k == 1053) with
  | false => exact h
  | true =>
    obtain ⟨c1, c2⟩ := (Bool.and_eq_true _ _).mp hc
    obtain rfl := beq_iff_eq.mp c1
    obtain rfl := beq_iff_eq.mp c2
    rw [show jw_find jw_svT 15 1053 = none by decide +kernel] at h
    cases h
theorem jx_le_mk {a1 : Nat → Nat → Nat → Option Nat} {a2 a3 : Nat → Nat → Option Nat} {a4 a5 b5 : Nat → Nat → Option Value} {a6 a7 : Nat → Nat → Option (Nat × (Nat → Option Nat))} {a8 : Nat → Nat → Option (Nat × Nat)} {a9 : Nat → Nat → Nat → Option Bool} {a10 : Nat → Nat → Bool} {a11 : Nat → Nat → Option (Nat × Nat)} {a12 : Nat → Nat → Bool} {a13 : Nat → Nat → Option Nat} {a14 : ArrayType → Option Nat} {a15 : Nat → List Value} {a16 : Nat → Nat} {a17 : Nat → Nat → Option FieldType} {a18 : Nat → Nat → Nat → Option Bool} {w w' : Nat → Bool} {a20 : Nat → Option FieldType} {a21 : Nat → Option Nat} {a22 : Nat → Nat → Option Value} {o o' : Nat → Option (Nat × Nat × (Nat → Value))} {a24 : Nat × Nat × Nat} (hw : ∀ a, w' a = true → w a = true) (hsv : ∀ own k v, b5 own k = some v → a5 own k = some v) (ho : ∀ j x, o' j = some x → o j = some x) : jx_le (a1, a2, a3, a4, b5, a6, a7, a8, a9, a10, a11, a12, a13, a14, a15, a16, a17, a18, w', a20, a21, a22, o', a24) (a1, a2, a3, a4, a5, a6, a7, a8, a9, a10, a11, a12, a13, a14, a15, a16, a17, a18, w, a20, a21, a22, o, a24) := jx_le_of (Eq.trans (b := a1) rfl rfl) (Eq.trans (b := a2) rfl rfl) (Eq.trans (b := a3) rfl rfl) (Eq.trans (b := a4) rfl rfl) hsv (Eq.trans (b := a6) rfl rfl) (Eq.trans (b := a7) rfl rfl) (Eq.trans (b := a8) rfl rfl) (Eq.trans (b := a9) rfl rfl) (Eq.trans (b := a10) rfl rfl) (Eq.trans (b := a11) rfl rfl) (Eq.trans (b := a12) rfl rfl) (Eq.trans (b := a13) rfl rfl) (Eq.trans (b := a14) rfl rfl) (Eq.trans (b := a15) rfl rfl) (Eq.trans (b := a16) rfl rfl) (Eq.trans (b := a17) rfl rfl) (Eq.trans (b := a18) rfl rfl) (Eq.trans (b := a20) rfl rfl) (Eq.trans (b := a21) rfl rfl) (Eq.trans (b := a22) rfl rfl) (Eq.trans (b := a24) rfl rfl) hw ho
theorem jw_le {w w' : Nat → Bool} {L : Nat} {xs : Nat → Int32} (hw : ∀ a, w' a = true → w a = true) : jx_le (jw_TC w') (jw_T w L xs) := jx_le_mk hw (fun _ _ _ h => jw_svB_le h) jw_oc_le
theorem jw_leC {w w' : Nat → Bool} (hw : ∀ a, w' a = true → w a = true) : jx_le (jw_TC w') (jw_TC w) := jx_le_mk hw (fun _ _ _ h => h) (fun _ _ h => h)
theorem jw_leB {w w' : Nat → Bool} {L : Nat} {xs : Nat → Int32} (hw : ∀ a, w' a = true → w a = true) : jx_le (jw_TB (jw_bt L xs) w') (jw_T w L xs) := jx_le_mk hw (fun _ _ _ h => h) jw_oc_le
theorem jw_leCB {w w' : Nat → Bool} {β : Bool} (hw : ∀ a, w' a = true → w a = true) : jx_le (jw_TC w') (jw_TB β w) := jx_le_mk hw (fun _ _ _ h => jw_svB_le h) (fun _ _ h => h)
