/-! ===== the model's name and put (printed by program: gen28.py) ===== -/
def sName (ob : Bool) (T : Int → Int) (n p : Int) : Int ⊕ (List Int × Int) := bif ob then (match sKey T n p with
    | .inl e => .inl e
    | .inr (s, q) => if tH T n q = 58 then .inr (s, q + 1) else .inl q) else .inr ([], p)
theorem sKey_q {T : Int → Int} {n p : Int} {s : List Int} {q : Int} (h0 : 0 ≤ p) (hp : p ≤ n) (h : sKey T n p = .inr (s, q)) : p < q ∧ q ≤ n ∧ tx s ∧ q = p + s.length ∧ s = spn pL T n 8 p := by
  unfold sKey at h
  split at h
  · cases h
  · rename_i h1
    split at h
    · cases h
    · rename_i h2
      cases h
      have h3 := spn_in (P := pL) (T := T) (n := n) (by decide) 8 p hp
      have h4 := spn_le (P := pL) (T := T) (n := n) 8 p
      refine ⟨by omega, h3, ⟨by omega, ?_⟩, rfl, rfl⟩
      have key : ∀ (k : Nat) (p : Int), ∀ c ∈ spn pL T n k p, 1 ≤ c ∧ c ≤ 127 := by
        intro k
        induction k with
        | zero => intro p c hc; exact absurd hc List.not_mem_nil
        | succ k ih =>
          intro p c hc
          unfold spn at hc
          split at hc
          · rename_i hP
            rcases List.mem_cons.mp hc with rfl | hc
            · have := of_decide_eq_true hP
              omega
            · exact ih _ c hc
          · exact absurd hc List.not_mem_nil
      exact key 8 p
theorem jn_name_ok {β : Bool} {d : Nat} {h : jx_H} {σ : mS} (hl : 49 ≤ h.length) {T : Int → Int} {n p : Int} (ht : tOK T n) (e1 : σ 1 = T) (e2 : σ 2 0 = n) (e28 : σ 28 0 = p) (h0 : 0 ≤ p) (hp : p ≤ n) (he0 : σ 29 0 = 0) {dp w kd : Int} (hd : 0 ≤ dp ∧ dp < 5) (e33 : σ 33 dp = w) (hw : 0 ≤ w ∧ w < 1740) (e3 : σ 3 w = kd) (hkd : 0 ≤ kd ∧ kd ≤ 6) {s : List Int} {q : Int} (hs : sName (decide (kd = 6)) T n p = .inr (s, q)) : ∃ τ : mS, jx_r (jz β) jw_M (d + 3) 217 (0, [some (.ref 15), some (.int (Int32.ofInt (dp))), none], [], ml_mk h σ) (ml_mk h (τ), .inl none) ∧ τ 35 dp = pk s ∧ τ 28 0 = q ∧ mEq [28, 31, 35] σ τ ∧ (∀ t, ¬ t = dp → τ 35 t = σ 35 t) := by
  have he : mr (σ 29 0) := by rw [he0]; exact ⟨by decide, by decide⟩
  obtain ⟨d0, d1⟩ := hd
  obtain ⟨w0, w1⟩ := hw
  unfold sName at hs
  by_cases hk : kd = 6
  · rw [decide_eq_true hk] at hs
    dsimp only [cond] at hs
    cases hx : sKey T n p with
    | inl e => rw [hx] at hs; cases hs
    | inr y =>
      obtain ⟨s2, q2⟩ := y
      rw [hx] at hs
      dsimp only at hs
      obtain ⟨g1, g2, g3, g4, g5⟩ := sKey_q h0 hp hx
      split at hs
      · rename_i h58
        obtain ⟨rfl, rfl⟩ : s2 = s ∧ q2 + 1 = q := by cases hs; exact ⟨rfl, rfl⟩
        refine ⟨mTake (su (su (su (su σ 35 (dp) (0)) 31 0 (pk s2)) 28 0 q2) 35 (dp) (pk s2)), ?_, ?_, ?_, ?_, ?_⟩
        · skip
          refine jr_1 jm_217 (show jw_cd cd_217 0 = some (.aload_n 0) by decide +kernel) rfl ?_
          refine jr_1 jm_217 (show jw_cd cd_217 1 = some (.getfield 86) by decide +kernel) (mg_a hl (a := 41) (show jw_fld 34 86 16 = some 35 by decide +kernel) (by decide) (by decide)) ?_
          refine jr_1 jm_217 (show jw_cd cd_217 4 = some (.iload_n 1) by decide +kernel) rfl ?_
          refine jr_1 jm_217 (F2 := (6, [some (.ref 15), some (.int (Int32.ofInt (dp))), none], [.long (Int64.ofInt (0)), .int (Int32.ofInt (dp)), .ref 41], ml_mk h σ)) (show jw_cd cd_217 5 = some (.lconst 0) by decide +kernel) rfl ?_
          refine jr_1 jm_217 (show jw_cd cd_217 6 = some (.lastore) by decide +kernel) (ms_j hl (i := dp) (x := 0) 35 (by omega) (by show _ < ((5 : Nat) : Int); omega) (by decide) (by decide) (by decide)) ?_
          refine jr_1 jm_217 (show jw_cd cd_217 7 = some (.aload_n 0) by decide +kernel) rfl ?_
          refine jr_1 jm_217 (show jw_cd cd_217 8 = some (.getfield 13) by decide +kernel) (mg_a hl (a := 17) (show jw_fld 34 13 16 = some 3 by decide +kernel) (by decide) (by decide)) ?_
          refine jr_1 jm_217 (show jw_cd cd_217 11 = some (.aload_n 0) by decide +kernel) rfl ?_
          refine jr_1 jm_217 (show jw_cd cd_217 12 = some (.getfield 80) by decide +kernel) (mg_a hl (a := 39) (show jw_fld 34 80 16 = some 33 by decide +kernel) (by decide) (by decide)) ?_
          refine jr_1 jm_217 (show jw_cd cd_217 15 = some (.iload_n 1) by decide +kernel) rfl ?_
          refine jr_1 jm_217 (show jw_cd cd_217 16 = some (.iaload) by decide +kernel) (ma_i hl (i := dp) (e := w) 33 (by omega) (by show _ < ((5 : Nat) : Int); omega) ((su_nf (by decide)).trans e33) (by decide) (by decide) (by decide)) ?_
          refine jr_1 jm_217 (show jw_cd cd_217 17 = some (.iaload) by decide +kernel) (ma_i hl (i := w) (e := kd) 3 (by omega) (by show _ < ((1740 : Nat) : Int); omega) ((su_nf (by decide)).trans e3) (by decide) (by decide) (by decide)) ?_
          refine jr_1 jm_217 (show jw_cd cd_217 18 = some (.bipush 6) by decide +kernel) (mt_bi (by decide)) ?_
          refine jr_1 jm_217 (show jw_cd cd_217 20 = some (.if_icmp .ne 29) by decide +kernel) (mb_f (q := .ne) (a := kd) (b := 6) (fun z => z hk) ⟨by omega, by omega⟩ ⟨by omega, by omega⟩ (by decide)) ?_
          refine jr_1 jm_217 (show jw_cd cd_217 23 = some (.aload_n 0) by decide +kernel) rfl ?_
          refine jr_c jm_217 (show jw_cd cd_217 24 = some (.invokevirtual 192) by decide +kernel) (mc_v hl (n := 0) (m2 := 218) (bs := []) (r := []) (show jw_find jw_cvT 34 192 = some (0, [(16, 218)]) by decide +kernel) (by decide) rfl rfl rfl) jm_218 ⟨Nat.le_of_ble_eq_true rfl, by decide⟩ (jn_readKey_ok hl ht ((su_row (by decide)).trans e1) ((su_nf (by decide)).trans e2) ((su_nf (by decide)).trans e28) h0 hp (by rw [show (su σ 35 (dp) (0)) 29 0 = σ 29 0 from su_nf (by decide)]; exact he) hx) ?_
          refine jr_1 jm_217 (F2 := (28, [some (.ref 15), some (.int (Int32.ofInt (dp))), some (.int (Int32.ofInt (1)))], [], ml_mk h (su (su (su σ 35 (dp) (0)) 31 0 (pk s2)) 28 0 q2))) (show jw_cd cd_217 27 = some (.istore_n 2) by decide +kernel) rfl ?_
          refine jr_1 jm_217 (show jw_cd cd_217 28 = some (.aload_n 0) by decide +kernel) rfl ?_
          refine jr_1 jm_217 (show jw_cd cd_217 29 = some (.getfield 86) by decide +kernel) (mg_a hl (a := 41) (show jw_fld 34 86 16 = some 35 by decide +kernel) (by decide) (by decide)) ?_
          refine jr_1 jm_217 (show jw_cd cd_217 32 = some (.iload_n 1) by decide +kernel) rfl ?_
          refine jr_1 jm_217 (show jw_cd cd_217 33 = some (.aload_n 0) by decide +kernel) rfl ?_
          refine jr_1 jm_217 (show jw_cd cd_217 34 = some (.getfield 158) by decide +kernel) (mg_j hl (e := pk s2) ((su_nf (by decide)).trans (su_eq _ _ _ _)) (show jw_fld 34 158 16 = some 31 by decide +kernel) (by decide) (by decide)) ?_
          refine jr_1 jm_217 (show jw_cd cd_217 37 = some (.lastore) by decide +kernel) (ms_j hl (i := dp) (x := pk s2) 35 (by omega) (by show _ < ((5 : Nat) : Int); omega) (by decide) (by decide) (by decide)) ?_
          refine jr_1 jm_217 (show jw_cd cd_217 38 = some (.iload_n 2) by decide +kernel) rfl ?_
          refine jr_1 jm_217 (show jw_cd cd_217 39 = some (.ifCond .eq 10) by decide +kernel) (mz_f (q := .eq) (a := 1) (by show ¬ (1 = 0); omega) ⟨by omega, by omega⟩ (by decide)) ?_
          refine jr_1 jm_217 (show jw_cd cd_217 42 = some (.aload_n 0) by decide +kernel) rfl ?_
          refine jr_1 jm_217 (show jw_cd cd_217 43 = some (.bipush 58) by decide +kernel) (mt_bi (by decide)) ?_
          refine jr_c jm_217 (show jw_cd cd_217 45 = some (.invokevirtual 179) by decide +kernel) (mc_v hl (n := 1) (m2 := 221) (bs := [.int (Int32.ofInt (58))]) (r := []) (show jw_find jw_cvT 34 179 = some (1, [(16, 221)]) by decide +kernel) (by decide) rfl rfl rfl) jm_221 ⟨Nat.le_of_ble_eq_true rfl, by decide⟩ (jn_must_t hl (mT_mk ht (T := T) (n := n) (p := q2) (((su_row (by decide)).trans ((su_row (by decide)).trans ((su_row (by decide)).trans (su_row (by decide))))).trans e1) (((su_nf (by decide)).trans ((su_nf (by decide)).trans ((su_nf (by decide)).trans (su_nf (by decide))))).trans e2) ((su_nf (by decide)).trans (su_eq _ _ _ _)) (by omega) (by omega)) ⟨by decide, by decide⟩ ((mHere_mk (T := T) (n := n) (p := q2) (((su_row (by decide)).trans ((su_row (by decide)).trans ((su_row (by decide)).trans (su_row (by decide))))).trans e1) (((su_nf (by decide)).trans ((su_nf (by decide)).trans ((su_nf (by decide)).trans (su_nf (by decide))))).trans e2) ((su_nf (by decide)).trans (su_eq _ _ _ _))).trans h58)) ?_
          refine jr_1 jm_217 (show jw_cd cd_217 48 = some (.pop) by decide +kernel) rfl ?_
          exact jr_v jm_217 (show jw_cd cd_217 49 = some (.return_) by decide +kernel) rfl
        · exact (su_nf (by decide)).trans (su_eq _ _ _ _)
        · show su _ 28 0 ((su (su (su (su σ 35 (dp) (0)) 31 0 (pk s2)) 28 0 q2) 35 (dp) (pk s2)) 28 0 + 1) 28 0 = q2 + 1
          rw [su_eq, su_nf (by decide), su_eq]
        · exact mEq_su (mEq_su (mEq_su (mEq_su (mEq_su (mEq_refl _ _) (by decide)) (by decide)) (by decide)) (by decide)) (by decide)
        · intro t htd
          exact (su_nf (by decide)).trans ((su_ni htd).trans ((su_nf (by decide)).trans ((su_nf (by decide)).trans (su_ni htd))))
      · cases hs
  · rw [decide_eq_false hk] at hs
    obtain ⟨rfl, rfl⟩ : [] = s ∧ p = q := by cases hs; exact ⟨rfl, rfl⟩
    refine ⟨(su σ 35 (dp) (0)), ?_, su_eq _ _ _ _, (su_nf (by decide)).trans e28, mEq_su (mEq_refl _ _) (by decide), fun t htd => su_ni htd⟩
    refine jr_1 jm_217 (show jw_cd cd_217 0 = some (.aload_n 0) by decide +kernel) rfl ?_
    refine jr_1 jm_217 (show jw_cd cd_217 1 = some (.getfield 86) by decide +kernel) (mg_a hl (a := 41) (show jw_fld 34 86 16 = some 35 by decide +kernel) (by decide) (by decide)) ?_
    refine jr_1 jm_217 (show jw_cd cd_217 4 = some (.iload_n 1) by decide +kernel) rfl ?_
    refine jr_1 jm_217 (F2 := (6, [some (.ref 15), some (.int (Int32.ofInt (dp))), none], [.long (Int64.ofInt (0)), .int (Int32.ofInt (dp)), .ref 41], ml_mk h σ)) (show jw_cd cd_217 5 = some (.lconst 0) by decide +kernel) rfl ?_
    refine jr_1 jm_217 (show jw_cd cd_217 6 = some (.lastore) by decide +kernel) (ms_j hl (i := dp) (x := 0) 35 (by omega) (by show _ < ((5 : Nat) : Int); omega) (by decide) (by decide) (by decide)) ?_
    refine jr_1 jm_217 (show jw_cd cd_217 7 = some (.aload_n 0) by decide +kernel) rfl ?_
    refine jr_1 jm_217 (show jw_cd cd_217 8 = some (.getfield 13) by decide +kernel) (mg_a hl (a := 17) (show jw_fld 34 13 16 = some 3 by decide +kernel) (by decide) (by decide)) ?_
    refine jr_1 jm_217 (show jw_cd cd_217 11 = some (.aload_n 0) by decide +kernel) rfl ?_
    refine jr_1 jm_217 (show jw_cd cd_217 12 = some (.getfield 80) by decide +kernel) (mg_a hl (a := 39) (show jw_fld 34 80 16 = some 33 by decide +kernel) (by decide) (by decide)) ?_
    refine jr_1 jm_217 (show jw_cd cd_217 15 = some (.iload_n 1) by decide +kernel) rfl ?_
    refine jr_1 jm_217 (show jw_cd cd_217 16 = some (.iaload) by decide +kernel) (ma_i hl (i := dp) (e := w) 33 (by omega) (by show _ < ((5 : Nat) : Int); omega) ((su_nf (by decide)).trans e33) (by decide) (by decide) (by decide)) ?_
    refine jr_1 jm_217 (show jw_cd cd_217 17 = some (.iaload) by decide +kernel) (ma_i hl (i := w) (e := kd) 3 (by omega) (by show _ < ((1740 : Nat) : Int); omega) ((su_nf (by decide)).trans e3) (by decide) (by decide) (by decide)) ?_
    refine jr_1 jm_217 (show jw_cd cd_217 18 = some (.bipush 6) by decide +kernel) (mt_bi (by decide)) ?_
    refine jr_1 jm_217 (show jw_cd cd_217 20 = some (.if_icmp .ne 29) by decide +kernel) (mb_t (q := .ne) (a := kd) (b := 6) (t := 49) hk ⟨by omega, by omega⟩ ⟨by omega, by omega⟩ (by decide) (by decide)) ?_
    exact jr_v jm_217 (show jw_cd cd_217 49 = some (.return_) by decide +kernel) rfl
theorem jn_name_er {β : Bool} {d : Nat} {h : jx_H} {σ : mS} (hl : 49 ≤ h.length) {T : Int → Int} {n p : Int} (ht : tOK T n) (e1 : σ 1 = T) (e2 : σ 2 0 = n) (e28 : σ 28 0 = p) (h0 : 0 ≤ p) (hp : p ≤ n) (he0 : σ 29 0 = 0) {dp w kd : Int} (hd : 0 ≤ dp ∧ dp < 5) (e33 : σ 33 dp = w) (hw : 0 ≤ w ∧ w < 1740) (e3 : σ 3 w = kd) (hkd : 0 ≤ kd ∧ kd ≤ 6) {e : Int} (hs : sName (decide (kd = 6)) T n p = .inl e) : ∃ τ : mS, jx_r (jz β) jw_M (d + 3) 217 (0, [some (.ref 15), some (.int (Int32.ofInt (dp))), none], [], ml_mk h σ) (ml_mk h (τ), .inl none) ∧ τ 29 0 = -1 - e ∧ mEq [28, 29, 31, 35] σ τ := by
  have he : mr (σ 29 0) := by rw [he0]; exact ⟨by decide, by decide⟩
  obtain ⟨d0, d1⟩ := hd
  obtain ⟨w0, w1⟩ := hw
  unfold sName at hs
  by_cases hk : kd = 6
  · rw [decide_eq_true hk] at hs
    dsimp only [cond] at hs
    cases hx : sKey T n p with
    | inl e2 =>
      rw [hx] at hs
      cases hs
      obtain ⟨τ, t1, t2, t3⟩ := jn_readKey_er (β := β) (d := d) (σ := (su σ 35 (dp) (0))) hl ht ((su_row (by decide)).trans e1) ((su_nf (by decide)).trans e2) ((su_nf (by decide)).trans e28) h0 hp (by rw [show (su σ 35 (dp) (0)) 29 0 = σ 29 0 from su_nf (by decide)]; exact he) ((su_nf (by decide)).trans he0) hx
      refine ⟨(su τ 35 (dp) (τ 31 0)), ?_, (su_nf (by decide)).trans t2, mEq_su (mEq_trans (mEq_su (mEq_refl _ _) (by decide)) (mEq_sub t3 (by decide))) (by decide)⟩
      refine jr_1 jm_217 (show jw_cd cd_217 0 = some (.aload_n 0) by decide +kernel) rfl ?_
      refine jr_1 jm_217 (show jw_cd cd_217 1 = some (.getfield 86) by decide +kernel) (mg_a hl (a := 41) (show jw_fld 34 86 16 = some 35 by decide +kernel) (by decide) (by decide)) ?_
      refine jr_1 jm_217 (show jw_cd cd_217 4 = some (.iload_n 1) by decide +kernel) rfl ?_
      refine jr_1 jm_217 (F2 := (6, [some (.ref 15), some (.int (Int32.ofInt (dp))), none], [.long (Int64.ofInt (0)), .int (Int32.ofInt (dp)), .ref 41], ml_mk h σ)) (show jw_cd cd_217 5 = some (.lconst 0) by decide +kernel) rfl ?_
      refine jr_1 jm_217 (show jw_cd cd_217 6 = some (.lastore) by decide +kernel) (ms_j hl (i := dp) (x := 0) 35 (by omega) (by show _ < ((5 : Nat) : Int); omega) (by decide) (by decide) (by decide)) ?_
      refine jr_1 jm_217 (show jw_cd cd_217 7 = some (.aload_n 0) by decide +kernel) rfl ?_
      refine jr_1 jm_217 (show jw_cd cd_217 8 = some (.getfield 13) by decide +kernel) (mg_a hl (a := 17) (show jw_fld 34 13 16 = some 3 by decide +kernel) (by decide) (by decide)) ?_
      refine jr_1 jm_217 (show jw_cd cd_217 11 = some (.aload_n 0) by decide +kernel) rfl ?_
      refine jr_1 jm_217 (show jw_cd cd_217 12 = some (.getfield 80) by decide +kernel) (mg_a hl (a := 39) (show jw_fld 34 80 16 = some 33 by decide +kernel) (by decide) (by decide)) ?_
      refine jr_1 jm_217 (show jw_cd cd_217 15 = some (.iload_n 1) by decide +kernel) rfl ?_
      refine jr_1 jm_217 (show jw_cd cd_217 16 = some (.iaload) by decide +kernel) (ma_i hl (i := dp) (e := w) 33 (by omega) (by show _ < ((5 : Nat) : Int); omega) ((su_nf (by decide)).trans e33) (by decide) (by decide) (by decide)) ?_
      refine jr_1 jm_217 (show jw_cd cd_217 17 = some (.iaload) by decide +kernel) (ma_i hl (i := w) (e := kd) 3 (by omega) (by show _ < ((1740 : Nat) : Int); omega) ((su_nf (by decide)).trans e3) (by decide) (by decide) (by decide)) ?_
      refine jr_1 jm_217 (show jw_cd cd_217 18 = some (.bipush 6) by decide +kernel) (mt_bi (by decide)) ?_
      refine jr_1 jm_217 (show jw_cd cd_217 20 = some (.if_icmp .ne 29) by decide +kernel) (mb_f (q := .ne) (a := kd) (b := 6) (fun z => z hk) ⟨by omega, by omega⟩ ⟨by omega, by omega⟩ (by decide)) ?_
      refine jr_1 jm_217 (show jw_cd cd_217 23 = some (.aload_n 0) by decide +kernel) rfl ?_
      refine jr_c jm_217 (show jw_cd cd_217 24 = some (.invokevirtual 192) by decide +kernel) (mc_v hl (n := 0) (m2 := 218) (bs := []) (r := []) (show jw_find jw_cvT 34 192 = some (0, [(16, 218)]) by decide +kernel) (by decide) rfl rfl rfl) jm_218 ⟨Nat.le_of_ble_eq_true rfl, by decide⟩ t1 ?_
      refine jr_1 jm_217 (F2 := (28, [some (.ref 15), some (.int (Int32.ofInt (dp))), some (.int (Int32.ofInt (0)))], [], ml_mk h τ)) (show jw_cd cd_217 27 = some (.istore_n 2) by decide +kernel) rfl ?_
      refine jr_1 jm_217 (show jw_cd cd_217 28 = some (.aload_n 0) by decide +kernel) rfl ?_
      refine jr_1 jm_217 (show jw_cd cd_217 29 = some (.getfield 86) by decide +kernel) (mg_a hl (a := 41) (show jw_fld 34 86 16 = some 35 by decide +kernel) (by decide) (by decide)) ?_
      refine jr_1 jm_217 (show jw_cd cd_217 32 = some (.iload_n 1) by decide +kernel) rfl ?_
      refine jr_1 jm_217 (show jw_cd cd_217 33 = some (.aload_n 0) by decide +kernel) rfl ?_
      refine jr_1 jm_217 (show jw_cd cd_217 34 = some (.getfield 158) by decide +kernel) (mg_j hl (e := τ 31 0) rfl (show jw_fld 34 158 16 = some 31 by decide +kernel) (by decide) (by decide)) ?_
      refine jr_1 jm_217 (show jw_cd cd_217 37 = some (.lastore) by decide +kernel) (ms_j hl (i := dp) (x := τ 31 0) 35 (by omega) (by show _ < ((5 : Nat) : Int); omega) (by decide) (by decide) (by decide)) ?_
      refine jr_1 jm_217 (show jw_cd cd_217 38 = some (.iload_n 2) by decide +kernel) rfl ?_
      refine jr_1 jm_217 (show jw_cd cd_217 39 = some (.ifCond .eq 10) by decide +kernel) (mz_t (q := .eq) (a := 0) (t := 49) (by show 0 = 0; omega) ⟨by omega, by omega⟩ (by decide) (by decide)) ?_
      exact jr_v jm_217 (show jw_cd cd_217 49 = some (.return_) by decide +kernel) rfl
    | inr y =>
      obtain ⟨s, q2⟩ := y
      rw [hx] at hs
      dsimp only at hs
      obtain ⟨g1, g2, g3, g4, g5⟩ := sKey_q h0 hp hx
      split at hs
      · cases hs
      · rename_i h58
        obtain rfl : q2 = e := by cases hs; rfl
        have z3 : (su (su (su (su σ 35 (dp) (0)) 31 0 (pk s)) 28 0 q2) 35 (dp) (pk s)) 29 0 = 0 := ((su_nf (by decide)).trans ((su_nf (by decide)).trans ((su_nf (by decide)).trans (su_nf (by decide))))).trans he0
        have he3 : mr ((su (su (su (su σ 35 (dp) (0)) 31 0 (pk s)) 28 0 q2) 35 (dp) (pk s)) 29 0) := by rw [z3]; exact ⟨by decide, by decide⟩
        refine ⟨mWrong (su (su (su (su σ 35 (dp) (0)) 31 0 (pk s)) 28 0 q2) 35 (dp) (pk s)) ((su (su (su (su σ 35 (dp) (0)) 31 0 (pk s)) 28 0 q2) 35 (dp) (pk s)) 28 0), ?_, ?_, ?_⟩
        · skip
          refine jr_1 jm_217 (show jw_cd cd_217 0 = some (.aload_n 0) by decide +kernel) rfl ?_
          refine jr_1 jm_217 (show jw_cd cd_217 1 = some (.getfield 86) by decide +kernel) (mg_a hl (a := 41) (show jw_fld 34 86 16 = some 35 by decide +kernel) (by decide) (by decide)) ?_
          refine jr_1 jm_217 (show jw_cd cd_217 4 = some (.iload_n 1) by decide +kernel) rfl ?_
          refine jr_1 jm_217 (F2 := (6, [some (.ref 15), some (.int (Int32.ofInt (dp))), none], [.long (Int64.ofInt (0)), .int (Int32.ofInt (dp)), .ref 41], ml_mk h σ)) (show jw_cd cd_217 5 = some (.lconst 0) by decide +kernel) rfl ?_
          refine jr_1 jm_217 (show jw_cd cd_217 6 = some (.lastore) by decide +kernel) (ms_j hl (i := dp) (x := 0) 35 (by omega) (by show _ < ((5 : Nat) : Int); omega) (by decide) (by decide) (by decide)) ?_
          refine jr_1 jm_217 (show jw_cd cd_217 7 = some (.aload_n 0) by decide +kernel) rfl ?_
          refine jr_1 jm_217 (show jw_cd cd_217 8 = some (.getfield 13) by decide +kernel) (mg_a hl (a := 17) (show jw_fld 34 13 16 = some 3 by decide +kernel) (by decide) (by decide)) ?_
          refine jr_1 jm_217 (show jw_cd cd_217 11 = some (.aload_n 0) by decide +kernel) rfl ?_
          refine jr_1 jm_217 (show jw_cd cd_217 12 = some (.getfield 80) by decide +kernel) (mg_a hl (a := 39) (show jw_fld 34 80 16 = some 33 by decide +kernel) (by decide) (by decide)) ?_
          refine jr_1 jm_217 (show jw_cd cd_217 15 = some (.iload_n 1) by decide +kernel) rfl ?_
          refine jr_1 jm_217 (show jw_cd cd_217 16 = some (.iaload) by decide +kernel) (ma_i hl (i := dp) (e := w) 33 (by omega) (by show _ < ((5 : Nat) : Int); omega) ((su_nf (by decide)).trans e33) (by decide) (by decide) (by decide)) ?_
          refine jr_1 jm_217 (show jw_cd cd_217 17 = some (.iaload) by decide +kernel) (ma_i hl (i := w) (e := kd) 3 (by omega) (by show _ < ((1740 : Nat) : Int); omega) ((su_nf (by decide)).trans e3) (by decide) (by decide) (by decide)) ?_
          refine jr_1 jm_217 (show jw_cd cd_217 18 = some (.bipush 6) by decide +kernel) (mt_bi (by decide)) ?_
          refine jr_1 jm_217 (show jw_cd cd_217 20 = some (.if_icmp .ne 29) by decide +kernel) (mb_f (q := .ne) (a := kd) (b := 6) (fun z => z hk) ⟨by omega, by omega⟩ ⟨by omega, by omega⟩ (by decide)) ?_
          refine jr_1 jm_217 (show jw_cd cd_217 23 = some (.aload_n 0) by decide +kernel) rfl ?_
          refine jr_c jm_217 (show jw_cd cd_217 24 = some (.invokevirtual 192) by decide +kernel) (mc_v hl (n := 0) (m2 := 218) (bs := []) (r := []) (show jw_find jw_cvT 34 192 = some (0, [(16, 218)]) by decide +kernel) (by decide) rfl rfl rfl) jm_218 ⟨Nat.le_of_ble_eq_true rfl, by decide⟩ (jn_readKey_ok hl ht ((su_row (by decide)).trans e1) ((su_nf (by decide)).trans e2) ((su_nf (by decide)).trans e28) h0 hp (by rw [show (su σ 35 (dp) (0)) 29 0 = σ 29 0 from su_nf (by decide)]; exact he) hx) ?_
          refine jr_1 jm_217 (F2 := (28, [some (.ref 15), some (.int (Int32.ofInt (dp))), some (.int (Int32.ofInt (1)))], [], ml_mk h (su (su (su σ 35 (dp) (0)) 31 0 (pk s)) 28 0 q2))) (show jw_cd cd_217 27 = some (.istore_n 2) by decide +kernel) rfl ?_
          refine jr_1 jm_217 (show jw_cd cd_217 28 = some (.aload_n 0) by decide +kernel) rfl ?_
          refine jr_1 jm_217 (show jw_cd cd_217 29 = some (.getfield 86) by decide +kernel) (mg_a hl (a := 41) (show jw_fld 34 86 16 = some 35 by decide +kernel) (by decide) (by decide)) ?_
          refine jr_1 jm_217 (show jw_cd cd_217 32 = some (.iload_n 1) by decide +kernel) rfl ?_
          refine jr_1 jm_217 (show jw_cd cd_217 33 = some (.aload_n 0) by decide +kernel) rfl ?_
          refine jr_1 jm_217 (show jw_cd cd_217 34 = some (.getfield 158) by decide +kernel) (mg_j hl (e := pk s) ((su_nf (by decide)).trans (su_eq _ _ _ _)) (show jw_fld 34 158 16 = some 31 by decide +kernel) (by decide) (by decide)) ?_
          refine jr_1 jm_217 (show jw_cd cd_217 37 = some (.lastore) by decide +kernel) (ms_j hl (i := dp) (x := pk s) 35 (by omega) (by show _ < ((5 : Nat) : Int); omega) (by decide) (by decide) (by decide)) ?_
          refine jr_1 jm_217 (show jw_cd cd_217 38 = some (.iload_n 2) by decide +kernel) rfl ?_
          refine jr_1 jm_217 (show jw_cd cd_217 39 = some (.ifCond .eq 10) by decide +kernel) (mz_f (q := .eq) (a := 1) (by show ¬ (1 = 0); omega) ⟨by omega, by omega⟩ (by decide)) ?_
          refine jr_1 jm_217 (show jw_cd cd_217 42 = some (.aload_n 0) by decide +kernel) rfl ?_
          refine jr_1 jm_217 (show jw_cd cd_217 43 = some (.bipush 58) by decide +kernel) (mt_bi (by decide)) ?_
          refine jr_c jm_217 (show jw_cd cd_217 45 = some (.invokevirtual 179) by decide +kernel) (mc_v hl (n := 1) (m2 := 221) (bs := [.int (Int32.ofInt (58))]) (r := []) (show jw_find jw_cvT 34 179 = some (1, [(16, 221)]) by decide +kernel) (by decide) rfl rfl rfl) jm_221 ⟨Nat.le_of_ble_eq_true rfl, by decide⟩ (jn_must_f hl (mT_mk ht (T := T) (n := n) (p := q2) (((su_row (by decide)).trans ((su_row (by decide)).trans ((su_row (by decide)).trans (su_row (by decide))))).trans e1) (((su_nf (by decide)).trans ((su_nf (by decide)).trans ((su_nf (by decide)).trans (su_nf (by decide))))).trans e2) ((su_nf (by decide)).trans (su_eq _ _ _ _)) (by omega) (by omega)) he3 ⟨by decide, by decide⟩ (fun z => h58 ((mHere_mk (T := T) (n := n) (p := q2) (((su_row (by decide)).trans ((su_row (by decide)).trans ((su_row (by decide)).trans (su_row (by decide))))).trans e1) (((su_nf (by decide)).trans ((su_nf (by decide)).trans ((su_nf (by decide)).trans (su_nf (by decide))))).trans e2) ((su_nf (by decide)).trans (su_eq _ _ _ _))).symm.trans z))) ?_
          refine jr_1 jm_217 (show jw_cd cd_217 48 = some (.pop) by decide +kernel) rfl ?_
          exact jr_v jm_217 (show jw_cd cd_217 49 = some (.return_) by decide +kernel) rfl
        · rw [mWrong_0 z3, show (su (su (su (su σ 35 (dp) (0)) 31 0 (pk s)) 28 0 q2) 35 (dp) (pk s)) 28 0 = q2 from (su_nf (by decide)).trans (su_eq _ _ _ _)]
        · exact mEq_wrong (mEq_su (mEq_su (mEq_su (mEq_su (mEq_refl _ _) (by decide)) (by decide)) (by decide)) (by decide)) (by decide)
  · rw [decide_eq_false hk] at hs
    cases hs
