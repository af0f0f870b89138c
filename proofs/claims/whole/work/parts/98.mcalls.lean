/-! ===== the model: write, result, written, about, keep (printed by program: gen26.py) ===== -/
theorem jn_write {β : Bool} {d : Nat} {h : jx_H} {σ : mS} (hl : 49 ≤ h.length) {A B : Int → Prop} (hA : mIx A) (hB : mIx B) {r : Int} {i : tI} {F : FT} (q14 : σ 14 0 = r) (hV : mV σ A B r i F) (hi : iok i) (hw : fwf F) (hc : fct F < 390) (h5 : (wV i F).length + 20 ≤ 500) : ∃ τ, jx_r (jz β) jw_M (d + 4 + 1) 275 (0, [some (.ref 15), none, none, none, none], [], ml_mk h σ) (ml_mk h (τ), .inl none) ∧ mEq [43, 44, 45, 46] σ τ ∧ pap τ (wV i F) := by
  obtain ⟨a1, ⟨n3, n4, n5, n7⟩, hF⟩ := hV
  have av := hA _ a1
  obtain ⟨v0, v1⟩ := av
  obtain ⟨i1, i2, i3, i4, i5⟩ := hi
  have hp0 : pap (su σ 45 (0) (0)) [] := ⟨su_eq _ _ _ _, fun j hj => absurd hj (Nat.not_lt_zero j)⟩
  obtain ⟨τ1, r1, r2, r3⟩ := jn_leaf (β := β) (d := d) (σ := σ) (τ := su σ 45 (0) (0)) hl ⟨v0, v1⟩ ((su_nf (by decide)).trans n3) ((su_nf (by decide)).trans n4) ((su_nf (by decide)).trans n5) ⟨i1, i2⟩ i3 i4 hp0 (by decide)
  rw [List.nil_append] at r3
  have q1 : mEq [43, 44, 45, 46] σ τ1 := mEq_trans (mEq_su (mEq_refl _ _) (by decide)) (mEq_sub r2 (by decide))
  have q14b : τ1 14 0 = r := (congrFun (q1 14 (by decide)) 0).trans q14
  have q6b : τ1 6 r = σ 6 r := congrFun (q1 6 (by decide)) r
  have q3b : τ1 3 r = i.1 := (congrFun (q1 3 (by decide)) r).trans n3
  obtain ⟨τ2, hτ2⟩ : ∃ τ2, τ2 = (su (su τ1 43 (0) (r)) 44 (0) (σ 6 r)) := ⟨_, rfl⟩
  have q2 : mEq [43, 44, 45, 46] σ τ2 := by rw [hτ2]; exact mEq_su (mEq_su q1 (by decide)) (by decide)
  have p2 : pap τ2 (wL i) := by
    rw [hτ2]
    exact ⟨((su_nf (by decide)).trans (su_nf (by decide))).trans r3.1, fun j hj => ((su_nf (by decide)).trans (su_nf (by decide))).trans (r3.2 j hj)⟩
  by_cases hk : i.1 < 5
  · rw [show wV i F = wL i from by unfold wV; rw [if_neg (by omega), List.append_nil]]
    refine ⟨τ2, ?_, q2, p2⟩
    refine jr_1 jm_275 (show jw_cd cd_275 0 = some (.aload_n 0) by decide +kernel) rfl ?_
    refine jr_1 jm_275 (show jw_cd cd_275 1 = some (.iconst 0) by decide +kernel) rfl ?_
    refine jr_1 jm_275 (show jw_cd cd_275 2 = some (.putfield 353) by decide +kernel) (mp_i hl (x := 0) (show jw_fld 34 353 16 = some 45 by decide +kernel) (by decide) (by decide) (show jw_ft 16 45 = some .int by decide +kernel) (show jw_fm 34 16 45 = some false by decide +kernel)) ?_
    refine jr_1 jm_275 (show jw_cd cd_275 5 = some (.iconst 0) by decide +kernel) rfl ?_
    refine jr_1 jm_275 (F2 := (7, [some (.ref 15), some (.int (Int32.ofInt (0))), none, none, none], [], ml_mk h (su σ 45 (0) (0)))) (show jw_cd cd_275 6 = some (.istore_n 1) by decide +kernel) rfl ?_
    refine jr_1 jm_275 (show jw_cd cd_275 7 = some (.aload_n 0) by decide +kernel) rfl ?_
    refine jr_1 jm_275 (show jw_cd cd_275 8 = some (.aload_n 0) by decide +kernel) rfl ?_
    refine jr_1 jm_275 (show jw_cd cd_275 9 = some (.getfield 118) by decide +kernel) (mg_i hl (e := r) ((su_nf (by decide)).trans q14) (show jw_fld 34 118 16 = some 14 by decide +kernel) (by decide) (by decide)) ?_
    refine jr_c jm_275 (show jw_cd cd_275 12 = some (.invokevirtual 370) by decide +kernel) (mc_v hl (n := 1) (m2 := 276) (bs := [.int (Int32.ofInt (r))]) (r := []) (show jw_find jw_cvT 34 370 = some (1, [(16, 276)]) by decide +kernel) (by decide) rfl rfl rfl) jm_276 ⟨Nat.le_of_ble_eq_true rfl, by decide⟩ r1 ?_
    refine jr_1 jm_275 (show jw_cd cd_275 15 = some (.aload_n 0) by decide +kernel) rfl ?_
    refine jr_1 jm_275 (show jw_cd cd_275 16 = some (.getfield 101) by decide +kernel) (mg_a hl (a := 46) (show jw_fld 34 101 16 = some 43 by decide +kernel) (by decide) (by decide)) ?_
    refine jr_1 jm_275 (show jw_cd cd_275 19 = some (.iconst 0) by decide +kernel) rfl ?_
    refine jr_1 jm_275 (show jw_cd cd_275 20 = some (.aload_n 0) by decide +kernel) rfl ?_
    refine jr_1 jm_275 (show jw_cd cd_275 21 = some (.getfield 118) by decide +kernel) (mg_i hl (e := r) q14b (show jw_fld 34 118 16 = some 14 by decide +kernel) (by decide) (by decide)) ?_
    refine jr_1 jm_275 (show jw_cd cd_275 24 = some (.iastore) by decide +kernel) (ms_i hl (i := 0) (x := r) 43 (by omega) (by show _ < ((400 : Nat) : Int); omega) (by decide) (by decide) (by decide)) ?_
    refine jr_1 jm_275 (show jw_cd cd_275 25 = some (.aload_n 0) by decide +kernel) rfl ?_
    refine jr_1 jm_275 (show jw_cd cd_275 26 = some (.getfield 104) by decide +kernel) (mg_a hl (a := 47) (show jw_fld 34 104 16 = some 44 by decide +kernel) (by decide) (by decide)) ?_
    refine jr_1 jm_275 (show jw_cd cd_275 29 = some (.iconst 0) by decide +kernel) rfl ?_
    refine jr_1 jm_275 (show jw_cd cd_275 30 = some (.aload_n 0) by decide +kernel) rfl ?_
    refine jr_1 jm_275 (show jw_cd cd_275 31 = some (.getfield 23) by decide +kernel) (mg_a hl (a := 20) (show jw_fld 34 23 16 = some 6 by decide +kernel) (by decide) (by decide)) ?_
    refine jr_1 jm_275 (show jw_cd cd_275 34 = some (.aload_n 0) by decide +kernel) rfl ?_
    refine jr_1 jm_275 (show jw_cd cd_275 35 = some (.getfield 118) by decide +kernel) (mg_i hl (e := r) ((su_nf (by decide)).trans q14b) (show jw_fld 34 118 16 = some 14 by decide +kernel) (by decide) (by decide)) ?_
    refine jr_1 jm_275 (show jw_cd cd_275 38 = some (.iaload) by decide +kernel) (ma_i hl (i := r) (e := σ 6 r) 6 (by omega) (by show _ < ((1740 : Nat) : Int); omega) ((su_nf (by decide)).trans q6b) (by decide) (by decide) (by decide)) ?_
    refine jr_1 jm_275 (show jw_cd cd_275 39 = some (.iastore) by decide +kernel) (ms_i hl (i := 0) (x := σ 6 r) 44 (by omega) (by show _ < ((400 : Nat) : Int); omega) (by decide) (by decide) (by decide)) ?_
    refine jr_1 jm_275 (show jw_cd cd_275 40 = some (.aload_n 0) by decide +kernel) rfl ?_
    refine jr_1 jm_275 (show jw_cd cd_275 41 = some (.getfield 13) by decide +kernel) (mg_a hl (a := 17) (show jw_fld 34 13 16 = some 3 by decide +kernel) (by decide) (by decide)) ?_
    refine jr_1 jm_275 (show jw_cd cd_275 44 = some (.aload_n 0) by decide +kernel) rfl ?_
    refine jr_1 jm_275 (show jw_cd cd_275 45 = some (.getfield 118) by decide +kernel) (mg_i hl (e := r) ((su_nf (by decide)).trans ((su_nf (by decide)).trans q14b)) (show jw_fld 34 118 16 = some 14 by decide +kernel) (by decide) (by decide)) ?_
    refine jr_1 jm_275 (show jw_cd cd_275 48 = some (.iaload) by decide +kernel) (ma_i hl (i := r) (e := i.1) 3 (by omega) (by show _ < ((1740 : Nat) : Int); omega) ((su_nf (by decide)).trans ((su_nf (by decide)).trans q3b)) (by decide) (by decide) (by decide)) ?_
    refine jr_1 jm_275 (show jw_cd cd_275 49 = some (.iconst 5) by decide +kernel) rfl ?_
    refine jr_1 jm_275 (show jw_cd cd_275 50 = some (.if_icmp .lt 7) by decide +kernel) (mb_t (q := .lt) (a := i.1) (b := 5) (t := 57) hk ⟨by omega, by omega⟩ ⟨by omega, by omega⟩ (by decide) (by decide)) ?_
    refine jr_1 jm_275 (show jw_cd cd_275 57 = some (.iconst 0) by decide +kernel) rfl ?_
    refine jr_1 jm_275 (F2 := (59, [some (.ref 15), some (.int (Int32.ofInt (0))), some (.int (Int32.ofInt (0))), none, none], [], ml_mk h (su (su τ1 43 (0) (r)) 44 (0) (σ 6 r)))) (show jw_cd cd_275 58 = some (.istore_n 2) by decide +kernel) rfl ?_
    rw [← hτ2]
    refine jr_1 jm_275 (show jw_cd cd_275 59 = some (.iload_n 2) by decide +kernel) rfl ?_
    refine jr_1 jm_275 (show jw_cd cd_275 60 = some (.ifCond .eq 183) by decide +kernel) (mz_t (q := .eq) (a := 0) (t := 243) (by show 0 = 0; omega) ⟨by omega, by omega⟩ (by decide) (by decide)) ?_
    exact jr_v jm_275 (show jw_cd cd_275 243 = some (.return_) by decide +kernel) rfl
  · have eW : wV i F = wL i ++ wF (decide (i.1 = 6)) true F ++ [wC i] := by
      unfold wV
      rw [if_pos (by omega), List.append_assoc]
    rw [eW] at h5 ⊢
    simp only [List.length_append, List.length_cons, List.length_nil] at h5
    obtain ⟨τ3, c3, c4, k1, k2, k3, k4, k5, k6⟩ := jn_wr (β := β) (d := d) hl hA hB F 0 r (σ 6 r) i F true τ2 (wL i) none none hw ⟨i1, i2⟩ hF a1 n3 hF (Nat.le_refl _) (fun _ => ⟨fun _ => rfl, fun _ => rfl⟩) q2 (by rw [hτ2, su_nf (by decide), su_eq]) (by rw [hτ2, su_eq]) p2 (by omega) (by omega) (by omega)
    obtain ⟨τ4, hτ4⟩ : ∃ τ4, τ4 = mMark τ3 (if i.1 = 5 then 93 else 125) := ⟨_, rfl⟩
    refine ⟨τ4, ?_, by rw [hτ4]; exact mEq_mark k2 (by decide) (by decide), by rw [hτ4]; exact pap_mark k6⟩
    refine jr_1 jm_275 (show jw_cd cd_275 0 = some (.aload_n 0) by decide +kernel) rfl ?_
    refine jr_1 jm_275 (show jw_cd cd_275 1 = some (.iconst 0) by decide +kernel) rfl ?_
    refine jr_1 jm_275 (show jw_cd cd_275 2 = some (.putfield 353) by decide +kernel) (mp_i hl (x := 0) (show jw_fld 34 353 16 = some 45 by decide +kernel) (by decide) (by decide) (show jw_ft 16 45 = some .int by decide +kernel) (show jw_fm 34 16 45 = some false by decide +kernel)) ?_
    refine jr_1 jm_275 (show jw_cd cd_275 5 = some (.iconst 0) by decide +kernel) rfl ?_
    refine jr_1 jm_275 (F2 := (7, [some (.ref 15), some (.int (Int32.ofInt (0))), none, none, none], [], ml_mk h (su σ 45 (0) (0)))) (show jw_cd cd_275 6 = some (.istore_n 1) by decide +kernel) rfl ?_
    refine jr_1 jm_275 (show jw_cd cd_275 7 = some (.aload_n 0) by decide +kernel) rfl ?_
    refine jr_1 jm_275 (show jw_cd cd_275 8 = some (.aload_n 0) by decide +kernel) rfl ?_
    refine jr_1 jm_275 (show jw_cd cd_275 9 = some (.getfield 118) by decide +kernel) (mg_i hl (e := r) ((su_nf (by decide)).trans q14) (show jw_fld 34 118 16 = some 14 by decide +kernel) (by decide) (by decide)) ?_
    refine jr_c jm_275 (show jw_cd cd_275 12 = some (.invokevirtual 370) by decide +kernel) (mc_v hl (n := 1) (m2 := 276) (bs := [.int (Int32.ofInt (r))]) (r := []) (show jw_find jw_cvT 34 370 = some (1, [(16, 276)]) by decide +kernel) (by decide) rfl rfl rfl) jm_276 ⟨Nat.le_of_ble_eq_true rfl, by decide⟩ r1 ?_
    refine jr_1 jm_275 (show jw_cd cd_275 15 = some (.aload_n 0) by decide +kernel) rfl ?_
    refine jr_1 jm_275 (show jw_cd cd_275 16 = some (.getfield 101) by decide +kernel) (mg_a hl (a := 46) (show jw_fld 34 101 16 = some 43 by decide +kernel) (by decide) (by decide)) ?_
    refine jr_1 jm_275 (show jw_cd cd_275 19 = some (.iconst 0) by decide +kernel) rfl ?_
    refine jr_1 jm_275 (show jw_cd cd_275 20 = some (.aload_n 0) by decide +kernel) rfl ?_
    refine jr_1 jm_275 (show jw_cd cd_275 21 = some (.getfield 118) by decide +kernel) (mg_i hl (e := r) q14b (show jw_fld 34 118 16 = some 14 by decide +kernel) (by decide) (by decide)) ?_
    refine jr_1 jm_275 (show jw_cd cd_275 24 = some (.iastore) by decide +kernel) (ms_i hl (i := 0) (x := r) 43 (by omega) (by show _ < ((400 : Nat) : Int); omega) (by decide) (by decide) (by decide)) ?_
    refine jr_1 jm_275 (show jw_cd cd_275 25 = some (.aload_n 0) by decide +kernel) rfl ?_
    refine jr_1 jm_275 (show jw_cd cd_275 26 = some (.getfield 104) by decide +kernel) (mg_a hl (a := 47) (show jw_fld 34 104 16 = some 44 by decide +kernel) (by decide) (by decide)) ?_
    refine jr_1 jm_275 (show jw_cd cd_275 29 = some (.iconst 0) by decide +kernel) rfl ?_
    refine jr_1 jm_275 (show jw_cd cd_275 30 = some (.aload_n 0) by decide +kernel) rfl ?_
    refine jr_1 jm_275 (show jw_cd cd_275 31 = some (.getfield 23) by decide +kernel) (mg_a hl (a := 20) (show jw_fld 34 23 16 = some 6 by decide +kernel) (by decide) (by decide)) ?_
    refine jr_1 jm_275 (show jw_cd cd_275 34 = some (.aload_n 0) by decide +kernel) rfl ?_
    refine jr_1 jm_275 (show jw_cd cd_275 35 = some (.getfield 118) by decide +kernel) (mg_i hl (e := r) ((su_nf (by decide)).trans q14b) (show jw_fld 34 118 16 = some 14 by decide +kernel) (by decide) (by decide)) ?_
    refine jr_1 jm_275 (show jw_cd cd_275 38 = some (.iaload) by decide +kernel) (ma_i hl (i := r) (e := σ 6 r) 6 (by omega) (by show _ < ((1740 : Nat) : Int); omega) ((su_nf (by decide)).trans q6b) (by decide) (by decide) (by decide)) ?_
    refine jr_1 jm_275 (show jw_cd cd_275 39 = some (.iastore) by decide +kernel) (ms_i hl (i := 0) (x := σ 6 r) 44 (by omega) (by show _ < ((400 : Nat) : Int); omega) (by decide) (by decide) (by decide)) ?_
    refine jr_1 jm_275 (show jw_cd cd_275 40 = some (.aload_n 0) by decide +kernel) rfl ?_
    refine jr_1 jm_275 (show jw_cd cd_275 41 = some (.getfield 13) by decide +kernel) (mg_a hl (a := 17) (show jw_fld 34 13 16 = some 3 by decide +kernel) (by decide) (by decide)) ?_
    refine jr_1 jm_275 (show jw_cd cd_275 44 = some (.aload_n 0) by decide +kernel) rfl ?_
    refine jr_1 jm_275 (show jw_cd cd_275 45 = some (.getfield 118) by decide +kernel) (mg_i hl (e := r) ((su_nf (by decide)).trans ((su_nf (by decide)).trans q14b)) (show jw_fld 34 118 16 = some 14 by decide +kernel) (by decide) (by decide)) ?_
    refine jr_1 jm_275 (show jw_cd cd_275 48 = some (.iaload) by decide +kernel) (ma_i hl (i := r) (e := i.1) 3 (by omega) (by show _ < ((1740 : Nat) : Int); omega) ((su_nf (by decide)).trans ((su_nf (by decide)).trans q3b)) (by decide) (by decide) (by decide)) ?_
    refine jr_1 jm_275 (show jw_cd cd_275 49 = some (.iconst 5) by decide +kernel) rfl ?_
    refine jr_1 jm_275 (show jw_cd cd_275 50 = some (.if_icmp .lt 7) by decide +kernel) (mb_f (q := .lt) (a := i.1) (b := 5) (fun (z : i.1 < 5) => by omega) ⟨by omega, by omega⟩ ⟨by omega, by omega⟩ (by decide)) ?_
    refine jr_1 jm_275 (show jw_cd cd_275 53 = some (.iconst 1) by decide +kernel) rfl ?_
    refine jr_1 jm_275 (show jw_cd cd_275 54 = some (.goto 4) by decide +kernel) (ju_go (t := 58) (by decide)) ?_
    refine jr_1 jm_275 (F2 := (59, [some (.ref 15), some (.int (Int32.ofInt (0))), some (.int (Int32.ofInt (1))), none, none], [], ml_mk h (su (su τ1 43 (0) (r)) 44 (0) (σ 6 r)))) (show jw_cd cd_275 58 = some (.istore_n 2) by decide +kernel) rfl ?_
    rw [← hτ2]
    refine k1 _ (jn_wr_e0 (σ := σ) hl ⟨v0, v1⟩ ⟨rfl, by omega⟩ (by rw [k3 0 (Int.le_refl 0), hτ2, su_nf (by decide), su_eq]) k5 ((congrFun (k2 3 (by decide)) r).trans n3) ⟨i1, i2⟩ k6 (by simp only [List.length_append]; omega) _ ?_)
    rw [← hτ4, show (0 : Int) - 1 = -1 by omega]
    refine jr_1 jm_275 (show jw_cd cd_275 59 = some (.iload_n 2) by decide +kernel) rfl ?_
    refine jr_1 jm_275 (show jw_cd cd_275 60 = some (.ifCond .eq 183) by decide +kernel) (mz_t (q := .eq) (a := 0) (t := 243) (by show 0 = 0; omega) ⟨by omega, by omega⟩ (by decide) (by decide)) ?_
    exact jr_v jm_275 (show jw_cd cd_275 243 = some (.return_) by decide +kernel) rfl
theorem jn_result0 {β : Bool} {d : Nat} {h : jx_H} {σ : mS} (hl : 49 ≤ h.length) {A B : Int → Prop} (hA : mIx A) (hB : mIx B) {r : Int} {i : tI} {F : FT} (q14 : σ 14 0 = r) (hV : mV σ A B r i F) (hi : iok i) : jx_r (jz β) jw_M (d) 274 (0, [some (.ref 15), some (.int (Int32.ofInt (0)))], [], ml_mk h σ) (ml_mk h ((su σ 0 (0) (0))), .inl (some (.int (Int32.ofInt (i.1))))) := by
  obtain ⟨a1, ⟨n3, n4, n5, n7⟩, hF⟩ := hV
  have av := hA _ a1
  obtain ⟨v0, v1⟩ := av
  obtain ⟨i1, i2, i3, i4, i5⟩ := hi
  refine jr_1 jm_274 (show jw_cd cd_274 0 = some (.aload_n 0) by decide +kernel) rfl ?_
  refine jr_1 jm_274 (show jw_cd cd_274 1 = some (.iconst 0) by decide +kernel) rfl ?_
  refine jr_1 jm_274 (show jw_cd cd_274 2 = some (.putfield 121) by decide +kernel) (mp_i hl (x := 0) (show jw_fld 34 121 16 = some 0 by decide +kernel) (by decide) (by decide) (show jw_ft 16 0 = some .int by decide +kernel) (show jw_fm 34 16 0 = some false by decide +kernel)) ?_
  refine jr_1 jm_274 (show jw_cd cd_274 5 = some (.iload_n 1) by decide +kernel) rfl ?_
  refine jr_1 jm_274 (show jw_cd cd_274 6 = some (.tableswitch 121 0 3 #[30, 40, 103, 112]) by decide +kernel) (mt_ts (t := 36) (off := 30) ⟨by omega, by omega⟩ (by omega) (by rfl) (by decide)) ?_
  refine jr_1 jm_274 (show jw_cd cd_274 36 = some (.aload_n 0) by decide +kernel) rfl ?_
  refine jr_1 jm_274 (show jw_cd cd_274 37 = some (.getfield 13) by decide +kernel) (mg_a hl (a := 17) (show jw_fld 34 13 16 = some 3 by decide +kernel) (by decide) (by decide)) ?_
  refine jr_1 jm_274 (show jw_cd cd_274 40 = some (.aload_n 0) by decide +kernel) rfl ?_
  refine jr_1 jm_274 (show jw_cd cd_274 41 = some (.getfield 118) by decide +kernel) (mg_i hl (e := r) ((su_nf (by decide)).trans q14) (show jw_fld 34 118 16 = some 14 by decide +kernel) (by decide) (by decide)) ?_
  refine jr_1 jm_274 (show jw_cd cd_274 44 = some (.iaload) by decide +kernel) (ma_i hl (i := r) (e := i.1) 3 (by omega) (by show _ < ((1740 : Nat) : Int); omega) ((su_nf (by decide)).trans n3) (by decide) (by decide) (by decide)) ?_
  exact jr_v jm_274 (show jw_cd cd_274 45 = some (.ireturn) by decide +kernel) rfl
def vext (i : tI) (F : FT) : Int := if i.1 = 3 then i.2.1 else if i.1 = 4 then (i.2.2.1.length : Int) else (fsz F : Int)
theorem jn_result1 {β : Bool} {d : Nat} {h : jx_H} {σ : mS} (hl : 49 ≤ h.length) {A B : Int → Prop} (hA : mIx A) (hB : mIx B) {r : Int} {i : tI} {F : FT} (q14 : σ 14 0 = r) (hV : mV σ A B r i F) (hi : iok i) : jx_r (jz β) jw_M (d + 1 + 1) 274 (0, [some (.ref 15), some (.int (Int32.ofInt (1)))], [], ml_mk h σ) (ml_mk h ((su σ 0 (0) (0))), .inl (some (.int (Int32.ofInt (vext i F))))) := by
  obtain ⟨a1, ⟨n3, n4, n5, n7⟩, hF⟩ := hV
  have av := hA _ a1
  obtain ⟨v0, v1⟩ := av
  obtain ⟨i1, i2, i3, i4, i5⟩ := hi
  refine jr_1 jm_274 (show jw_cd cd_274 0 = some (.aload_n 0) by decide +kernel) rfl ?_
  refine jr_1 jm_274 (show jw_cd cd_274 1 = some (.iconst 0) by decide +kernel) rfl ?_
  refine jr_1 jm_274 (show jw_cd cd_274 2 = some (.putfield 121) by decide +kernel) (mp_i hl (x := 0) (show jw_fld 34 121 16 = some 0 by decide +kernel) (by decide) (by decide) (show jw_ft 16 0 = some .int by decide +kernel) (show jw_fm 34 16 0 = some false by decide +kernel)) ?_
  refine jr_1 jm_274 (show jw_cd cd_274 5 = some (.iload_n 1) by decide +kernel) rfl ?_
  refine jr_1 jm_274 (show jw_cd cd_274 6 = some (.tableswitch 121 0 3 #[30, 40, 103, 112]) by decide +kernel) (mt_ts (t := 46) (off := 40) ⟨by omega, by omega⟩ (by omega) (by rfl) (by decide)) ?_
  refine jr_1 jm_274 (show jw_cd cd_274 46 = some (.aload_n 0) by decide +kernel) rfl ?_
  refine jr_1 jm_274 (show jw_cd cd_274 47 = some (.getfield 13) by decide +kernel) (mg_a hl (a := 17) (show jw_fld 34 13 16 = some 3 by decide +kernel) (by decide) (by decide)) ?_
  refine jr_1 jm_274 (show jw_cd cd_274 50 = some (.aload_n 0) by decide +kernel) rfl ?_
  refine jr_1 jm_274 (show jw_cd cd_274 51 = some (.getfield 118) by decide +kernel) (mg_i hl (e := r) ((su_nf (by decide)).trans q14) (show jw_fld 34 118 16 = some 14 by decide +kernel) (by decide) (by decide)) ?_
  refine jr_1 jm_274 (show jw_cd cd_274 54 = some (.iaload) by decide +kernel) (ma_i hl (i := r) (e := i.1) 3 (by omega) (by show _ < ((1740 : Nat) : Int); omega) ((su_nf (by decide)).trans n3) (by decide) (by decide) (by decide)) ?_
  refine jr_1 jm_274 (show jw_cd cd_274 55 = some (.iconst 3) by decide +kernel) rfl ?_
  by_cases hk : i.1 = 3
  · rw [show vext i F = i.2.1 from if_pos hk]
    refine jr_1 jm_274 (show jw_cd cd_274 56 = some (.if_icmp .ne 15) by decide +kernel) (mb_f (q := .ne) (a := i.1) (b := 3) (fun z => z hk) ⟨by omega, by omega⟩ ⟨by omega, by omega⟩ (by decide)) ?_
    refine jr_1 jm_274 (show jw_cd cd_274 59 = some (.aload_n 0) by decide +kernel) rfl ?_
    refine jr_1 jm_274 (show jw_cd cd_274 60 = some (.getfield 16) by decide +kernel) (mg_a hl (a := 18) (show jw_fld 34 16 16 = some 4 by decide +kernel) (by decide) (by decide)) ?_
    refine jr_1 jm_274 (show jw_cd cd_274 63 = some (.aload_n 0) by decide +kernel) rfl ?_
    refine jr_1 jm_274 (show jw_cd cd_274 64 = some (.getfield 118) by decide +kernel) (mg_i hl (e := r) ((su_nf (by decide)).trans q14) (show jw_fld 34 118 16 = some 14 by decide +kernel) (by decide) (by decide)) ?_
    refine jr_1 jm_274 (show jw_cd cd_274 67 = some (.iaload) by decide +kernel) (ma_i hl (i := r) (e := i.2.1) 4 (by omega) (by show _ < ((1740 : Nat) : Int); omega) ((su_nf (by decide)).trans n4) (by decide) (by decide) (by decide)) ?_
    refine jr_1 jm_274 (show jw_cd cd_274 68 = some (.goto 40) by decide +kernel) (ju_go (t := 108) (by decide)) ?_
    exact jr_v jm_274 (show jw_cd cd_274 108 = some (.ireturn) by decide +kernel) rfl
  refine jr_1 jm_274 (show jw_cd cd_274 56 = some (.if_icmp .ne 15) by decide +kernel) (mb_t (q := .ne) (a := i.1) (b := 3) (t := 71) hk ⟨by omega, by omega⟩ ⟨by omega, by omega⟩ (by decide) (by decide)) ?_
  refine jr_1 jm_274 (show jw_cd cd_274 71 = some (.aload_n 0) by decide +kernel) rfl ?_
  refine jr_1 jm_274 (show jw_cd cd_274 72 = some (.getfield 13) by decide +kernel) (mg_a hl (a := 17) (show jw_fld 34 13 16 = some 3 by decide +kernel) (by decide) (by decide)) ?_
  refine jr_1 jm_274 (show jw_cd cd_274 75 = some (.aload_n 0) by decide +kernel) rfl ?_
  refine jr_1 jm_274 (show jw_cd cd_274 76 = some (.getfield 118) by decide +kernel) (mg_i hl (e := r) ((su_nf (by decide)).trans q14) (show jw_fld 34 118 16 = some 14 by decide +kernel) (by decide) (by decide)) ?_
  refine jr_1 jm_274 (show jw_cd cd_274 79 = some (.iaload) by decide +kernel) (ma_i hl (i := r) (e := i.1) 3 (by omega) (by show _ < ((1740 : Nat) : Int); omega) ((su_nf (by decide)).trans n3) (by decide) (by decide) (by decide)) ?_
  refine jr_1 jm_274 (show jw_cd cd_274 80 = some (.iconst 4) by decide +kernel) rfl ?_
  by_cases hk4 : i.1 = 4
  · rw [show vext i F = (i.2.2.1.length : Int) from by unfold vext; rw [if_neg hk, if_pos hk4]]
    refine jr_1 jm_274 (show jw_cd cd_274 81 = some (.if_icmp .ne 18) by decide +kernel) (mb_f (q := .ne) (a := i.1) (b := 4) (fun z => z hk4) ⟨by omega, by omega⟩ ⟨by omega, by omega⟩ (by decide)) ?_
    refine jr_1 jm_274 (show jw_cd cd_274 84 = some (.aload_n 0) by decide +kernel) rfl ?_
    refine jr_1 jm_274 (show jw_cd cd_274 85 = some (.getfield 19) by decide +kernel) (mg_a hl (a := 19) (show jw_fld 34 19 16 = some 5 by decide +kernel) (by decide) (by decide)) ?_
    refine jr_1 jm_274 (show jw_cd cd_274 88 = some (.aload_n 0) by decide +kernel) rfl ?_
    refine jr_1 jm_274 (show jw_cd cd_274 89 = some (.getfield 118) by decide +kernel) (mg_i hl (e := r) ((su_nf (by decide)).trans q14) (show jw_fld 34 118 16 = some 14 by decide +kernel) (by decide) (by decide)) ?_
    refine jr_1 jm_274 (show jw_cd cd_274 92 = some (.laload) by decide +kernel) (ma_j hl (i := r) (e := pk i.2.2.1) 5 (by omega) (by show _ < ((1740 : Nat) : Int); omega) ((su_nf (by decide)).trans n5) (by decide) (by decide) (by decide)) ?_
    refine jr_c jm_274 (show jw_cd cd_274 93 = some (.invokestatic 314) by decide +kernel) (mc_s (n := 1) (m2 := 249) (bs := [.long (Int64.ofInt (pk i.2.2.1))]) (r := []) (by decide) (show jw_find jw_csT 34 314 = some (249, 1) by decide +kernel) rfl rfl rfl) jm_249 ⟨Nat.le_of_ble_eq_true rfl, by decide⟩ (jn_lengthOf hl i4) ?_
    refine jr_1 jm_274 (show jw_cd cd_274 96 = some (.goto 12) by decide +kernel) (ju_go (t := 108) (by decide)) ?_
    exact jr_v jm_274 (show jw_cd cd_274 108 = some (.ireturn) by decide +kernel) rfl
  · rw [show vext i F = (fsz F : Int) from by unfold vext; rw [if_neg hk, if_neg hk4]]
    refine jr_1 jm_274 (show jw_cd cd_274 81 = some (.if_icmp .ne 18) by decide +kernel) (mb_t (q := .ne) (a := i.1) (b := 4) (t := 99) hk4 ⟨by omega, by omega⟩ ⟨by omega, by omega⟩ (by decide) (by decide)) ?_
    refine jr_1 jm_274 (show jw_cd cd_274 99 = some (.aload_n 0) by decide +kernel) rfl ?_
    refine jr_1 jm_274 (show jw_cd cd_274 100 = some (.getfield 26) by decide +kernel) (mg_a hl (a := 21) (show jw_fld 34 26 16 = some 7 by decide +kernel) (by decide) (by decide)) ?_
    refine jr_1 jm_274 (show jw_cd cd_274 103 = some (.aload_n 0) by decide +kernel) rfl ?_
    refine jr_1 jm_274 (show jw_cd cd_274 104 = some (.getfield 118) by decide +kernel) (mg_i hl (e := r) ((su_nf (by decide)).trans q14) (show jw_fld 34 118 16 = some 14 by decide +kernel) (by decide) (by decide)) ?_
    refine jr_1 jm_274 (show jw_cd cd_274 107 = some (.iaload) by decide +kernel) (ma_i hl (i := r) (e := (fsz F : Int)) 7 (by omega) (by show _ < ((1740 : Nat) : Int); omega) ((su_nf (by decide)).trans n7) (by decide) (by decide) (by decide)) ?_
    exact jr_v jm_274 (show jw_cd cd_274 108 = some (.ireturn) by decide +kernel) rfl
theorem jn_result2 {β : Bool} {d : Nat} {h : jx_H} {σ : mS} (hl : 49 ≤ h.length) {A B : Int → Prop} (hA : mIx A) (hB : mIx B) {r : Int} {i : tI} {F : FT} (q14 : σ 14 0 = r) (hV : mV σ A B r i F) (hi : iok i) (hw : fwf F) (hc : fct F < 390) (h5 : (wV i F).length + 20 ≤ 500) : ∃ τ, jx_r (jz β) jw_M (d + 4 + 1 + 1) 274 (0, [some (.ref 15), some (.int (Int32.ofInt (2)))], [], ml_mk h σ) (ml_mk h (τ), .inl (some (.int (Int32.ofInt (((wV i F).length : Int)))))) ∧ mEq [0, 43, 44, 45, 46] σ τ ∧ τ 0 0 = 0 := by
  have hV0 : mV (su σ 0 (0) (0)) A B r i F := ⟨hV.1, ⟨(su_nf (by decide)).trans hV.2.1.1, (su_nf (by decide)).trans hV.2.1.2.1, (su_nf (by decide)).trans hV.2.1.2.2.1, (su_nf (by decide)).trans hV.2.1.2.2.2⟩, by
    rw [show (su σ 0 (0) (0)) 6 r = σ 6 r from su_nf (by decide)]
    exact mF_frame (fun _ _ => ⟨su_nf (by decide), su_nf (by decide), su_nf (by decide), su_nf (by decide), su_nf (by decide)⟩) (fun _ _ => ⟨su_nf (by decide), su_nf (by decide), su_nf (by decide)⟩) _ _ hV.2.2⟩
  obtain ⟨τ, r1, r2, r3⟩ := jn_write (β := β) (d := d) (σ := (su σ 0 (0) (0))) hl hA hB ((su_nf (by decide)).trans q14) hV0 hi hw hc h5
  refine ⟨τ, ?_, mEq_trans (mEq_su (mEq_refl _ _) (by decide)) (mEq_sub r2 (by decide)), by rw [r2 0 (by decide), su_eq]⟩
  refine jr_1 jm_274 (show jw_cd cd_274 0 = some (.aload_n 0) by decide +kernel) rfl ?_
  refine jr_1 jm_274 (show jw_cd cd_274 1 = some (.iconst 0) by decide +kernel) rfl ?_
  refine jr_1 jm_274 (show jw_cd cd_274 2 = some (.putfield 121) by decide +kernel) (mp_i hl (x := 0) (show jw_fld 34 121 16 = some 0 by decide +kernel) (by decide) (by decide) (show jw_ft 16 0 = some .int by decide +kernel) (show jw_fm 34 16 0 = some false by decide +kernel)) ?_
  refine jr_1 jm_274 (show jw_cd cd_274 5 = some (.iload_n 1) by decide +kernel) rfl ?_
  refine jr_1 jm_274 (show jw_cd cd_274 6 = some (.tableswitch 121 0 3 #[30, 40, 103, 112]) by decide +kernel) (mt_ts (t := 109) (off := 103) ⟨by omega, by omega⟩ (by omega) (by rfl) (by decide)) ?_
  refine jr_1 jm_274 (show jw_cd cd_274 109 = some (.aload_n 0) by decide +kernel) rfl ?_
  refine jr_c jm_274 (show jw_cd cd_274 110 = some (.invokevirtual 373) by decide +kernel) (mc_v hl (n := 0) (m2 := 275) (bs := []) (r := []) (show jw_find jw_cvT 34 373 = some (0, [(16, 275)]) by decide +kernel) (by decide) rfl rfl rfl) jm_275 ⟨Nat.le_of_ble_eq_true rfl, by decide⟩ r1 ?_
  refine jr_1 jm_274 (show jw_cd cd_274 113 = some (.aload_n 0) by decide +kernel) rfl ?_
  refine jr_1 jm_274 (show jw_cd cd_274 114 = some (.getfield 353) by decide +kernel) (mg_i hl (e := ((wV i F).length : Int)) r3.1 (show jw_fld 34 353 16 = some 45 by decide +kernel) (by decide) (by decide)) ?_
  exact jr_v jm_274 (show jw_cd cd_274 117 = some (.ireturn) by decide +kernel) rfl
theorem jn_result3 {β : Bool} {d : Nat} {h : jx_H} {σ : mS} (hl : 49 ≤ h.length) {A B : Int → Prop} (hA : mIx A) (hB : mIx B) {r : Int} {i : tI} {F : FT} (q14 : σ 14 0 = r) (hV : mV σ A B r i F) (hi : iok i) (hc : fct F < 390) : ∃ τ, jx_r (jz β) jw_M (d + 1) 274 (0, [some (.ref 15), some (.int (Int32.ofInt (3)))], [], ml_mk h σ) (ml_mk h (τ), .inl (some (.int (Int32.ofInt (1 + (fct F : Int)))))) ∧ mEq [0, 43] σ τ ∧ τ 0 0 = 0 := by
  have hV0 : mV (su σ 0 (0) (0)) A B r i F := ⟨hV.1, ⟨(su_nf (by decide)).trans hV.2.1.1, (su_nf (by decide)).trans hV.2.1.2.1, (su_nf (by decide)).trans hV.2.1.2.2.1, (su_nf (by decide)).trans hV.2.1.2.2.2⟩, by
    rw [show (su σ 0 (0) (0)) 6 r = σ 6 r from su_nf (by decide)]
    exact mF_frame (fun _ _ => ⟨su_nf (by decide), su_nf (by decide), su_nf (by decide), su_nf (by decide), su_nf (by decide)⟩) (fun _ _ => ⟨su_nf (by decide), su_nf (by decide), su_nf (by decide)⟩) _ _ hV.2.2⟩
  obtain ⟨τ, r1, r2⟩ := jn_sizeOf (β := β) (d := d) (σ := (su σ 0 (0) (0))) hl hA hB hV0 (by omega)
  refine ⟨τ, ?_, mEq_trans (mEq_su (mEq_refl _ _) (by decide)) (mEq_sub r2 (by decide)), by rw [r2 0 (by decide), su_eq]⟩
  refine jr_1 jm_274 (show jw_cd cd_274 0 = some (.aload_n 0) by decide +kernel) rfl ?_
  refine jr_1 jm_274 (show jw_cd cd_274 1 = some (.iconst 0) by decide +kernel) rfl ?_
  refine jr_1 jm_274 (show jw_cd cd_274 2 = some (.putfield 121) by decide +kernel) (mp_i hl (x := 0) (show jw_fld 34 121 16 = some 0 by decide +kernel) (by decide) (by decide) (show jw_ft 16 0 = some .int by decide +kernel) (show jw_fm 34 16 0 = some false by decide +kernel)) ?_
  refine jr_1 jm_274 (show jw_cd cd_274 5 = some (.iload_n 1) by decide +kernel) rfl ?_
  refine jr_1 jm_274 (show jw_cd cd_274 6 = some (.tableswitch 121 0 3 #[30, 40, 103, 112]) by decide +kernel) (mt_ts (t := 118) (off := 112) ⟨by omega, by omega⟩ (by omega) (by rfl) (by decide)) ?_
  refine jr_1 jm_274 (show jw_cd cd_274 118 = some (.aload_n 0) by decide +kernel) rfl ?_
  refine jr_1 jm_274 (show jw_cd cd_274 119 = some (.aload_n 0) by decide +kernel) rfl ?_
  refine jr_1 jm_274 (show jw_cd cd_274 120 = some (.getfield 118) by decide +kernel) (mg_i hl (e := r) ((su_nf (by decide)).trans q14) (show jw_fld 34 118 16 = some 14 by decide +kernel) (by decide) (by decide)) ?_
  refine jr_c jm_274 (show jw_cd cd_274 123 = some (.invokevirtual 215) by decide +kernel) (mc_v hl (n := 1) (m2 := 231) (bs := [.int (Int32.ofInt (r))]) (r := []) (show jw_find jw_cvT 34 215 = some (1, [(16, 231)]) by decide +kernel) (by decide) rfl rfl rfl) jm_231 ⟨Nat.le_of_ble_eq_true rfl, by decide⟩ r1 ?_
  exact jr_v jm_274 (show jw_cd cd_274 126 = some (.ireturn) by decide +kernel) rfl
theorem jn_resultd {β : Bool} {d : Nat} {h : jx_H} {σ : mS} (hl : 49 ≤ h.length) {what : Int} (hm : mr what) (hx : what < 0 ∨ 3 < what) : jx_r (jz β) jw_M (d) 274 (0, [some (.ref 15), some (.int (Int32.ofInt (what)))], [], ml_mk h σ) (ml_mk h ((su σ 0 (0) (0))), .inl (some (.int (Int32.ofInt (-1))))) := by
  obtain ⟨m1, m2⟩ := hm
  refine jr_1 jm_274 (show jw_cd cd_274 0 = some (.aload_n 0) by decide +kernel) rfl ?_
  refine jr_1 jm_274 (show jw_cd cd_274 1 = some (.iconst 0) by decide +kernel) rfl ?_
  refine jr_1 jm_274 (show jw_cd cd_274 2 = some (.putfield 121) by decide +kernel) (mp_i hl (x := 0) (show jw_fld 34 121 16 = some 0 by decide +kernel) (by decide) (by decide) (show jw_ft 16 0 = some .int by decide +kernel) (show jw_fm 34 16 0 = some false by decide +kernel)) ?_
  refine jr_1 jm_274 (show jw_cd cd_274 5 = some (.iload_n 1) by decide +kernel) rfl ?_
  refine jr_1 jm_274 (show jw_cd cd_274 6 = some (.tableswitch 121 0 3 #[30, 40, 103, 112]) by decide +kernel) (mt_td (t := 127) ⟨by omega, by omega⟩ (by omega) (by decide)) ?_
  refine jr_1 jm_274 (show jw_cd cd_274 127 = some (.iconst (-1)) by decide +kernel) rfl ?_
  exact jr_v jm_274 (show jw_cd cd_274 128 = some (.ireturn) by decide +kernel) rfl
theorem jn_about0 {β : Bool} {d : Nat} {h : jx_H} {σ : mS} (hl : 49 ≤ h.length) {n : Int} (q2 : σ 2 0 = n) : jx_r (jz β) jw_M (d) 281 (0, [some (.ref 15), some (.int (Int32.ofInt (0)))], [], ml_mk h σ) (ml_mk h ((su σ 0 (0) (0))), .inl (some (.int (Int32.ofInt (n))))) := by
  refine jr_1 jm_281 (show jw_cd cd_281 0 = some (.aload_n 0) by decide +kernel) rfl ?_
  refine jr_1 jm_281 (show jw_cd cd_281 1 = some (.iconst 0) by decide +kernel) rfl ?_
  refine jr_1 jm_281 (show jw_cd cd_281 2 = some (.putfield 121) by decide +kernel) (mp_i hl (x := 0) (show jw_fld 34 121 16 = some 0 by decide +kernel) (by decide) (by decide) (show jw_ft 16 0 = some .int by decide +kernel) (show jw_fm 34 16 0 = some false by decide +kernel)) ?_
  refine jr_1 jm_281 (show jw_cd cd_281 5 = some (.iload_n 1) by decide +kernel) rfl ?_
  refine jr_1 jm_281 (show jw_cd cd_281 6 = some (.tableswitch 59 0 3 #[30, 35, 40, 50]) by decide +kernel) (mt_ts (t := 36) (off := 30) ⟨by omega, by omega⟩ (by omega) (by rfl) (by decide)) ?_
  refine jr_1 jm_281 (show jw_cd cd_281 36 = some (.aload_n 0) by decide +kernel) rfl ?_
  refine jr_1 jm_281 (show jw_cd cd_281 37 = some (.getfield 142) by decide +kernel) (mg_i hl (e := n) ((su_nf (by decide)).trans q2) (show jw_fld 34 142 16 = some 2 by decide +kernel) (by decide) (by decide)) ?_
  exact jr_v jm_281 (show jw_cd cd_281 40 = some (.ireturn) by decide +kernel) rfl
theorem jn_about1 {β : Bool} {d : Nat} {h : jx_H} {σ : mS} (hl : 49 ≤ h.length) {n : Int} (q15 : σ 15 0 = n) : jx_r (jz β) jw_M (d) 281 (0, [some (.ref 15), some (.int (Int32.ofInt (1)))], [], ml_mk h σ) (ml_mk h ((su σ 0 (0) (0))), .inl (some (.int (Int32.ofInt (n))))) := by
  refine jr_1 jm_281 (show jw_cd cd_281 0 = some (.aload_n 0) by decide +kernel) rfl ?_
  refine jr_1 jm_281 (show jw_cd cd_281 1 = some (.iconst 0) by decide +kernel) rfl ?_
  refine jr_1 jm_281 (show jw_cd cd_281 2 = some (.putfield 121) by decide +kernel) (mp_i hl (x := 0) (show jw_fld 34 121 16 = some 0 by decide +kernel) (by decide) (by decide) (show jw_ft 16 0 = some .int by decide +kernel) (show jw_fm 34 16 0 = some false by decide +kernel)) ?_
  refine jr_1 jm_281 (show jw_cd cd_281 5 = some (.iload_n 1) by decide +kernel) rfl ?_
  refine jr_1 jm_281 (show jw_cd cd_281 6 = some (.tableswitch 59 0 3 #[30, 35, 40, 50]) by decide +kernel) (mt_ts (t := 41) (off := 35) ⟨by omega, by omega⟩ (by omega) (by rfl) (by decide)) ?_
  refine jr_1 jm_281 (show jw_cd cd_281 41 = some (.aload_n 0) by decide +kernel) rfl ?_
  refine jr_1 jm_281 (show jw_cd cd_281 42 = some (.getfield 219) by decide +kernel) (mg_i hl (e := n) ((su_nf (by decide)).trans q15) (show jw_fld 34 219 16 = some 15 by decide +kernel) (by decide) (by decide)) ?_
  exact jr_v jm_281 (show jw_cd cd_281 45 = some (.ireturn) by decide +kernel) rfl
theorem jn_about2 {β : Bool} {d : Nat} {h : jx_H} {σ : mS} (hl : 49 ≤ h.length) {A B : Int → Prop} (hA : mIx A) (hB : mIx B) {r : Int} {i : tI} {F : FT} (q13 : σ 13 0 = r) (hV : mV σ A B r i F) (hi : iok i) : jx_r (jz β) jw_M (d) 281 (0, [some (.ref 15), some (.int (Int32.ofInt (2)))], [], ml_mk h σ) (ml_mk h ((su σ 0 (0) (0))), .inl (some (.int (Int32.ofInt (i.1))))) := by
  obtain ⟨a1, ⟨n3, n4, n5, n7⟩, hF⟩ := hV
  have av := hA _ a1
  obtain ⟨v0, v1⟩ := av
  obtain ⟨i1, i2, i3, i4, i5⟩ := hi
  refine jr_1 jm_281 (show jw_cd cd_281 0 = some (.aload_n 0) by decide +kernel) rfl ?_
  refine jr_1 jm_281 (show jw_cd cd_281 1 = some (.iconst 0) by decide +kernel) rfl ?_
  refine jr_1 jm_281 (show jw_cd cd_281 2 = some (.putfield 121) by decide +kernel) (mp_i hl (x := 0) (show jw_fld 34 121 16 = some 0 by decide +kernel) (by decide) (by decide) (show jw_ft 16 0 = some .int by decide +kernel) (show jw_fm 34 16 0 = some false by decide +kernel)) ?_
  refine jr_1 jm_281 (show jw_cd cd_281 5 = some (.iload_n 1) by decide +kernel) rfl ?_
  refine jr_1 jm_281 (show jw_cd cd_281 6 = some (.tableswitch 59 0 3 #[30, 35, 40, 50]) by decide +kernel) (mt_ts (t := 46) (off := 40) ⟨by omega, by omega⟩ (by omega) (by rfl) (by decide)) ?_
  refine jr_1 jm_281 (show jw_cd cd_281 46 = some (.aload_n 0) by decide +kernel) rfl ?_
  refine jr_1 jm_281 (show jw_cd cd_281 47 = some (.getfield 13) by decide +kernel) (mg_a hl (a := 17) (show jw_fld 34 13 16 = some 3 by decide +kernel) (by decide) (by decide)) ?_
  refine jr_1 jm_281 (show jw_cd cd_281 50 = some (.aload_n 0) by decide +kernel) rfl ?_
  refine jr_1 jm_281 (show jw_cd cd_281 51 = some (.getfield 114) by decide +kernel) (mg_i hl (e := r) ((su_nf (by decide)).trans q13) (show jw_fld 34 114 16 = some 13 by decide +kernel) (by decide) (by decide)) ?_
  refine jr_1 jm_281 (show jw_cd cd_281 54 = some (.iaload) by decide +kernel) (ma_i hl (i := r) (e := i.1) 3 (by omega) (by show _ < ((1740 : Nat) : Int); omega) ((su_nf (by decide)).trans n3) (by decide) (by decide) (by decide)) ?_
  exact jr_v jm_281 (show jw_cd cd_281 55 = some (.ireturn) by decide +kernel) rfl
theorem jn_about3 {β : Bool} {d : Nat} {h : jx_H} {σ : mS} (hl : 49 ≤ h.length) {A B : Int → Prop} (hA : mIx A) (hB : mIx B) {r : Int} {i : tI} {F : FT} (q13 : σ 13 0 = r) (hV : mV σ A B r i F) (hi : iok i) (hc : fct F < 390) : ∃ τ, jx_r (jz β) jw_M (d + 1) 281 (0, [some (.ref 15), some (.int (Int32.ofInt (3)))], [], ml_mk h σ) (ml_mk h (τ), .inl (some (.int (Int32.ofInt (1 + (fct F : Int)))))) ∧ mEq [0, 43] σ τ ∧ τ 0 0 = 0 := by
  have hV0 : mV (su σ 0 (0) (0)) A B r i F := ⟨hV.1, ⟨(su_nf (by decide)).trans hV.2.1.1, (su_nf (by decide)).trans hV.2.1.2.1, (su_nf (by decide)).trans hV.2.1.2.2.1, (su_nf (by decide)).trans hV.2.1.2.2.2⟩, by
    rw [show (su σ 0 (0) (0)) 6 r = σ 6 r from su_nf (by decide)]
    exact mF_frame (fun _ _ => ⟨su_nf (by decide), su_nf (by decide), su_nf (by decide), su_nf (by decide), su_nf (by decide)⟩) (fun _ _ => ⟨su_nf (by decide), su_nf (by decide), su_nf (by decide)⟩) _ _ hV.2.2⟩
  obtain ⟨τ, r1, r2⟩ := jn_sizeOf (β := β) (d := d) (σ := (su σ 0 (0) (0))) hl hA hB hV0 (by omega)
  refine ⟨τ, ?_, mEq_trans (mEq_su (mEq_refl _ _) (by decide)) (mEq_sub r2 (by decide)), by rw [r2 0 (by decide), su_eq]⟩
  refine jr_1 jm_281 (show jw_cd cd_281 0 = some (.aload_n 0) by decide +kernel) rfl ?_
  refine jr_1 jm_281 (show jw_cd cd_281 1 = some (.iconst 0) by decide +kernel) rfl ?_
  refine jr_1 jm_281 (show jw_cd cd_281 2 = some (.putfield 121) by decide +kernel) (mp_i hl (x := 0) (show jw_fld 34 121 16 = some 0 by decide +kernel) (by decide) (by decide) (show jw_ft 16 0 = some .int by decide +kernel) (show jw_fm 34 16 0 = some false by decide +kernel)) ?_
  refine jr_1 jm_281 (show jw_cd cd_281 5 = some (.iload_n 1) by decide +kernel) rfl ?_
  refine jr_1 jm_281 (show jw_cd cd_281 6 = some (.tableswitch 59 0 3 #[30, 35, 40, 50]) by decide +kernel) (mt_ts (t := 56) (off := 50) ⟨by omega, by omega⟩ (by omega) (by rfl) (by decide)) ?_
  refine jr_1 jm_281 (show jw_cd cd_281 56 = some (.aload_n 0) by decide +kernel) rfl ?_
  refine jr_1 jm_281 (show jw_cd cd_281 57 = some (.aload_n 0) by decide +kernel) rfl ?_
  refine jr_1 jm_281 (show jw_cd cd_281 58 = some (.getfield 114) by decide +kernel) (mg_i hl (e := r) ((su_nf (by decide)).trans q13) (show jw_fld 34 114 16 = some 13 by decide +kernel) (by decide) (by decide)) ?_
  refine jr_c jm_281 (show jw_cd cd_281 61 = some (.invokevirtual 215) by decide +kernel) (mc_v hl (n := 1) (m2 := 231) (bs := [.int (Int32.ofInt (r))]) (r := []) (show jw_find jw_cvT 34 215 = some (1, [(16, 231)]) by decide +kernel) (by decide) rfl rfl rfl) jm_231 ⟨Nat.le_of_ble_eq_true rfl, by decide⟩ r1 ?_
  exact jr_v jm_281 (show jw_cd cd_281 64 = some (.ireturn) by decide +kernel) rfl
theorem jn_aboutd {β : Bool} {d : Nat} {h : jx_H} {σ : mS} (hl : 49 ≤ h.length) {what : Int} (hm : mr what) (hx : what < 0 ∨ 3 < what) : jx_r (jz β) jw_M (d) 281 (0, [some (.ref 15), some (.int (Int32.ofInt (what)))], [], ml_mk h σ) (ml_mk h ((su σ 0 (0) (0))), .inl (some (.int (Int32.ofInt (-1))))) := by
  obtain ⟨m1, m2⟩ := hm
  refine jr_1 jm_281 (show jw_cd cd_281 0 = some (.aload_n 0) by decide +kernel) rfl ?_
  refine jr_1 jm_281 (show jw_cd cd_281 1 = some (.iconst 0) by decide +kernel) rfl ?_
  refine jr_1 jm_281 (show jw_cd cd_281 2 = some (.putfield 121) by decide +kernel) (mp_i hl (x := 0) (show jw_fld 34 121 16 = some 0 by decide +kernel) (by decide) (by decide) (show jw_ft 16 0 = some .int by decide +kernel) (show jw_fm 34 16 0 = some false by decide +kernel)) ?_
  refine jr_1 jm_281 (show jw_cd cd_281 5 = some (.iload_n 1) by decide +kernel) rfl ?_
  refine jr_1 jm_281 (show jw_cd cd_281 6 = some (.tableswitch 59 0 3 #[30, 35, 40, 50]) by decide +kernel) (mt_td (t := 65) ⟨by omega, by omega⟩ (by omega) (by decide)) ?_
  refine jr_1 jm_281 (show jw_cd cd_281 65 = some (.iconst (-1)) by decide +kernel) rfl ?_
  exact jr_v jm_281 (show jw_cd cd_281 66 = some (.ireturn) by decide +kernel) rfl
theorem jn_written {β : Bool} {d : Nat} {h : jx_H} {σ : mS} (hl : 49 ≤ h.length) {A B : Int → Prop} (hA : mIx A) (hB : mIx B) {r : Int} {i : tI} {F : FT} (q14 : σ 14 0 = r) (hV : mV σ A B r i F) (hi : iok i) (hw : fwf F) (hc : fct F < 390) (h5 : (wV i F).length + 20 ≤ 500) {x : Int} (hx : mr x) : ∃ τ, jx_r (jz β) jw_M (d + 4 + 1 + 1) 280 (0, [some (.ref 15), some (.int (Int32.ofInt (x)))], [], ml_mk h σ) (ml_mk h (τ), .inl (some (.int (Int32.ofInt (if 0 ≤ x ∧ x < (wV i F).length then (wV i F).getD x.toNat 0 else -1))))) ∧ mEq [0, 43, 44, 45, 46] σ τ ∧ τ 0 0 = 0 := by
  obtain ⟨x1, x2⟩ := hx
  have hV0 : mV (su σ 0 (0) (0)) A B r i F := ⟨hV.1, ⟨(su_nf (by decide)).trans hV.2.1.1, (su_nf (by decide)).trans hV.2.1.2.1, (su_nf (by decide)).trans hV.2.1.2.2.1, (su_nf (by decide)).trans hV.2.1.2.2.2⟩, by
    rw [show (su σ 0 (0) (0)) 6 r = σ 6 r from su_nf (by decide)]
    exact mF_frame (fun _ _ => ⟨su_nf (by decide), su_nf (by decide), su_nf (by decide), su_nf (by decide), su_nf (by decide)⟩) (fun _ _ => ⟨su_nf (by decide), su_nf (by decide), su_nf (by decide)⟩) _ _ hV.2.2⟩
  obtain ⟨τ, r1, r2, r3⟩ := jn_write (β := β) (d := d) (σ := (su σ 0 (0) (0))) hl hA hB ((su_nf (by decide)).trans q14) hV0 hi hw hc h5
  refine ⟨τ, ?_, mEq_trans (mEq_su (mEq_refl _ _) (by decide)) (mEq_sub r2 (by decide)), by rw [r2 0 (by decide), su_eq]⟩
  refine jr_1 jm_280 (show jw_cd cd_280 0 = some (.aload_n 0) by decide +kernel) rfl ?_
  refine jr_1 jm_280 (show jw_cd cd_280 1 = some (.iconst 0) by decide +kernel) rfl ?_
  refine jr_1 jm_280 (show jw_cd cd_280 2 = some (.putfield 121) by decide +kernel) (mp_i hl (x := 0) (show jw_fld 34 121 16 = some 0 by decide +kernel) (by decide) (by decide) (show jw_ft 16 0 = some .int by decide +kernel) (show jw_fm 34 16 0 = some false by decide +kernel)) ?_
  refine jr_1 jm_280 (show jw_cd cd_280 5 = some (.aload_n 0) by decide +kernel) rfl ?_
  refine jr_c jm_280 (show jw_cd cd_280 6 = some (.invokevirtual 373) by decide +kernel) (mc_v hl (n := 0) (m2 := 275) (bs := []) (r := []) (show jw_find jw_cvT 34 373 = some (0, [(16, 275)]) by decide +kernel) (by decide) rfl rfl rfl) jm_275 ⟨Nat.le_of_ble_eq_true rfl, by decide⟩ r1 ?_
  refine jr_1 jm_280 (show jw_cd cd_280 9 = some (.iload_n 1) by decide +kernel) rfl ?_
  by_cases h0 : x < 0
  · rw [if_neg (by omega)]
    refine jr_1 jm_280 (show jw_cd cd_280 10 = some (.ifCond .lt 11) by decide +kernel) (mz_t (q := .lt) (a := x) (t := 21) h0 ⟨by omega, by omega⟩ (by decide) (by decide)) ?_
    refine jr_1 jm_280 (show jw_cd cd_280 21 = some (.iconst (-1)) by decide +kernel) rfl ?_
    refine jr_1 jm_280 (show jw_cd cd_280 22 = some (.goto 9) by decide +kernel) (ju_go (t := 31) (by decide)) ?_
    exact jr_v jm_280 (show jw_cd cd_280 31 = some (.ireturn) by decide +kernel) rfl
  refine jr_1 jm_280 (show jw_cd cd_280 10 = some (.ifCond .lt 11) by decide +kernel) (mz_f (q := .lt) (a := x) h0 ⟨by omega, by omega⟩ (by decide)) ?_
  refine jr_1 jm_280 (show jw_cd cd_280 13 = some (.iload_n 1) by decide +kernel) rfl ?_
  refine jr_1 jm_280 (show jw_cd cd_280 14 = some (.aload_n 0) by decide +kernel) rfl ?_
  refine jr_1 jm_280 (show jw_cd cd_280 15 = some (.getfield 353) by decide +kernel) (mg_i hl (e := ((wV i F).length : Int)) r3.1 (show jw_fld 34 353 16 = some 45 by decide +kernel) (by decide) (by decide)) ?_
  by_cases h1 : x < ((wV i F).length : Int)
  · rw [if_pos ⟨by omega, h1⟩]
    have p46 : τ 46 x = (wV i F).getD x.toNat 0 := by
      have e := r3.2 x.toNat (by omega)
      rw [show ((x.toNat : Nat) : Int) = x by omega] at e
      exact e
    refine jr_1 jm_280 (show jw_cd cd_280 18 = some (.if_icmp .lt 7) by decide +kernel) (mb_t (q := .lt) (a := x) (b := ((wV i F).length : Int)) (t := 25) (by show x < ((wV i F).length : Int); omega) ⟨by omega, by omega⟩ ⟨by omega, by omega⟩ (by decide) (by decide)) ?_
    refine jr_1 jm_280 (show jw_cd cd_280 25 = some (.aload_n 0) by decide +kernel) rfl ?_
    refine jr_1 jm_280 (show jw_cd cd_280 26 = some (.getfield 107) by decide +kernel) (mg_a hl (a := 48) (show jw_fld 34 107 16 = some 46 by decide +kernel) (by decide) (by decide)) ?_
    refine jr_1 jm_280 (show jw_cd cd_280 29 = some (.iload_n 1) by decide +kernel) rfl ?_
    refine jr_1 jm_280 (show jw_cd cd_280 30 = some (.iaload) by decide +kernel) (ma_i hl (i := x) (e := (wV i F).getD x.toNat 0) 46 (by omega) (by show _ < ((500 : Nat) : Int); omega) p46 (by decide) (by decide) (by decide)) ?_
    exact jr_v jm_280 (show jw_cd cd_280 31 = some (.ireturn) by decide +kernel) rfl
  · rw [if_neg (by omega)]
    refine jr_1 jm_280 (show jw_cd cd_280 18 = some (.if_icmp .lt 7) by decide +kernel) (mb_f (q := .lt) (a := x) (b := ((wV i F).length : Int)) (by show ¬ (x < ((wV i F).length : Int)); omega) ⟨by omega, by omega⟩ ⟨by omega, by omega⟩ (by decide)) ?_
    refine jr_1 jm_280 (show jw_cd cd_280 21 = some (.iconst (-1)) by decide +kernel) rfl ?_
    refine jr_1 jm_280 (show jw_cd cd_280 22 = some (.goto 9) by decide +kernel) (ju_go (t := 31) (by decide)) ?_
    exact jr_v jm_280 (show jw_cd cd_280 31 = some (.ireturn) by decide +kernel) rfl
theorem jn_keep {β : Bool} {d : Nat} {h : jx_H} {σ : mS} (hl : 49 ≤ h.length) {A B : Int → Prop} (hA : mIx A) (hB : mIx B) {r : Int} {i : tI} {F : FT} (q14 : σ 14 0 = r) (hV : mV σ A B r i F) (hi : iok i) (hAz : ∀ v, A v → ¬ Zn 0 v) (hBz : ∀ v, B v → ¬ Zn 0 v) (hN : 1 + fct F ≤ 170) : ∃ τ, jx_r (jz β) jw_M (d + 1 + 1) 273 (0, [some (.ref 15)], [], ml_mk h σ) (ml_mk h ((su τ 13 (0) (170 * 0))), .inl (some (.int (Int32.ofInt (i.1))))) ∧ mV τ (Zn 0) (Zn 0) (170 * 0) i F ∧ (∀ f v, ¬ Zn 0 v → 3 ≤ f → f ≤ 10 → τ f v = (su σ 0 (0) (0)) f v) ∧ (∀ v, ¬ v = 0 → τ 11 v = (su σ 0 (0) (0)) 11 v ∧ τ 12 v = (su σ 0 (0) (0)) 12 v) ∧ (∀ f, f < 3 ∨ 12 < f → ¬ f = 43 → ¬ f = 44 → τ f = (su σ 0 (0) (0)) f) := by
  have hV0 : mV (su σ 0 (0) (0)) A B r i F := ⟨hV.1, ⟨(su_nf (by decide)).trans hV.2.1.1, (su_nf (by decide)).trans hV.2.1.2.1, (su_nf (by decide)).trans hV.2.1.2.2.1, (su_nf (by decide)).trans hV.2.1.2.2.2⟩, by
    rw [show (su σ 0 (0) (0)) 6 r = σ 6 r from su_nf (by decide)]
    exact mF_frame (fun _ _ => ⟨su_nf (by decide), su_nf (by decide), su_nf (by decide), su_nf (by decide), su_nf (by decide)⟩) (fun _ _ => ⟨su_nf (by decide), su_nf (by decide), su_nf (by decide)⟩) _ _ hV.2.2⟩
  obtain ⟨τ, r1, r2, r3⟩ := jn_copy (β := β) (d := d) (σ := (su σ 0 (0) (0))) hl hA hB (z := 0) ⟨by decide, by decide⟩ hAz hBz hV0 hN
  have n3b : τ 3 (170 * 0) = i.1 := r2.2.1.1
  refine ⟨τ, ?_, r2, r3⟩
  refine jr_1 jm_273 (show jw_cd cd_273 0 = some (.aload_n 0) by decide +kernel) rfl ?_
  refine jr_1 jm_273 (show jw_cd cd_273 1 = some (.iconst 0) by decide +kernel) rfl ?_
  refine jr_1 jm_273 (show jw_cd cd_273 2 = some (.putfield 121) by decide +kernel) (mp_i hl (x := 0) (show jw_fld 34 121 16 = some 0 by decide +kernel) (by decide) (by decide) (show jw_ft 16 0 = some .int by decide +kernel) (show jw_fm 34 16 0 = some false by decide +kernel)) ?_
  refine jr_1 jm_273 (show jw_cd cd_273 5 = some (.aload_n 0) by decide +kernel) rfl ?_
  refine jr_1 jm_273 (show jw_cd cd_273 6 = some (.aload_n 0) by decide +kernel) rfl ?_
  refine jr_1 jm_273 (show jw_cd cd_273 7 = some (.aload_n 0) by decide +kernel) rfl ?_
  refine jr_1 jm_273 (show jw_cd cd_273 8 = some (.getfield 118) by decide +kernel) (mg_i hl (e := r) ((su_nf (by decide)).trans q14) (show jw_fld 34 118 16 = some 14 by decide +kernel) (by decide) (by decide)) ?_
  refine jr_1 jm_273 (show jw_cd cd_273 11 = some (.iconst 0) by decide +kernel) rfl ?_
  refine jr_c jm_273 (show jw_cd cd_273 12 = some (.invokevirtual 211) by decide +kernel) (mc_v hl (n := 2) (m2 := 230) (bs := [.int (Int32.ofInt (r)), .int (Int32.ofInt (0))]) (r := [.ref 15]) (show jw_find jw_cvT 34 211 = some (2, [(16, 230)]) by decide +kernel) (by decide) rfl rfl rfl) jm_230 ⟨Nat.le_of_ble_eq_true rfl, by decide⟩ r1 ?_
  refine jr_1 jm_273 (show jw_cd cd_273 15 = some (.putfield 114) by decide +kernel) (mp_i hl (x := 170 * 0) (show jw_fld 34 114 16 = some 13 by decide +kernel) (by decide) (by decide) (show jw_ft 16 13 = some .int by decide +kernel) (show jw_fm 34 16 13 = some false by decide +kernel)) ?_
  refine jr_1 jm_273 (show jw_cd cd_273 18 = some (.aload_n 0) by decide +kernel) rfl ?_
  refine jr_1 jm_273 (show jw_cd cd_273 19 = some (.getfield 13) by decide +kernel) (mg_a hl (a := 17) (show jw_fld 34 13 16 = some 3 by decide +kernel) (by decide) (by decide)) ?_
  refine jr_1 jm_273 (show jw_cd cd_273 22 = some (.aload_n 0) by decide +kernel) rfl ?_
  refine jr_1 jm_273 (show jw_cd cd_273 23 = some (.getfield 114) by decide +kernel) (mg_i hl (e := 170 * 0) (su_eq _ _ _ _) (show jw_fld 34 114 16 = some 13 by decide +kernel) (by decide) (by decide)) ?_
  refine jr_1 jm_273 (show jw_cd cd_273 26 = some (.iaload) by decide +kernel) (ma_i hl (i := 170 * 0) (e := i.1) 3 (by omega) (by show _ < ((1740 : Nat) : Int); omega) ((su_nf (by decide)).trans n3b) (by decide) (by decide) (by decide)) ?_
  exact jr_v jm_273 (show jw_cd cd_273 27 = some (.ireturn) by decide +kernel) rfl
