/-! ===== the model reads a key, a text, a number (printed by program: gen16.py) ===== -/
theorem su_id (σ : mS) (f : Nat) (i : Int) : su σ f i (σ f i) = σ := by
  funext g j
  unfold su
  split
  · rename_i hc
    rw [hc.1, hc.2]
  · rfl
/-- all other fields are as they were -/
def mEq (L : List Nat) (σ τ : mS) : Prop := ∀ g : Nat, g ∉ L → τ g = σ g
theorem mEq_su {L : List Nat} {σ τ : mS} {f : Nat} {i x : Int} (h : mEq L σ τ) (hf : f ∈ L) : mEq L σ (su τ f i x) := fun g hg => (su_row (fun e => hg (by rw [e]; exact hf))).trans (h g hg)
theorem mEq_refl (L : List Nat) (σ : mS) : mEq L σ σ := fun _ _ => rfl
theorem mEq_wrong {L : List Nat} {σ τ : mS} {p : Int} (h : mEq L σ τ) (hf : 29 ∈ L) : mEq L σ (mWrong τ p) := mEq_su h hf
theorem mWrong_0 {τ : mS} {p : Int} (h : τ 29 0 = 0) : mWrong τ p 29 0 = -1 - p := by
  unfold mWrong
  rw [su_eq, if_pos h]
/-- where it is wrong, or what is read and the place behind it -/
def sKey (T : Int → Int) (n p : Int) : Int ⊕ (List Int × Int) := if (spn pL T n 8 p).length = 0 then .inl p else if (spn pL T n 8 p).length = 8 then .inl (p + 7) else .inr (spn pL T n 8 p, p + (spn pL T n 8 p).length)
def sText (T : Int → Int) (n p : Int) : Int ⊕ (List Int × Int) := if (spn pX T n 8 (p + 1)).length = 8 then .inl (p + 1 + 7) else if tH T n (p + 1 + (spn pX T n 8 (p + 1)).length) = 39 then .inr (spn pX T n 8 (p + 1), p + 1 + (spn pX T n 8 (p + 1)).length + 1) else .inl (p + 1 + (spn pX T n 8 (p + 1)).length)
theorem spn_le {P : Int → Bool} {T : Int → Int} {n : Int} : ∀ (k : Nat) (p : Int), (spn P T n k p).length ≤ k
  | 0, p => Nat.le_refl 0
  | k + 1, p => by
    unfold spn
    split
    · exact Nat.succ_le_succ (spn_le k (p + 1))
    · exact Nat.zero_le _
theorem spn_in {P : Int → Bool} {T : Int → Int} {n : Int} (hP : P (-1) = false) : ∀ (k : Nat) (p : Int), p ≤ n → p + (spn P T n k p).length ≤ n
  | 0, p, h => by
    show p + ((0 : Nat) : Int) ≤ n
    omega
  | k + 1, p, h => by
    unfold spn
    split
    · rename_i hc
      have hlt : p < n := Decidable.byContradiction fun z => by
        rw [show tH T n p = -1 from if_neg z, hP] at hc
        cases hc
      have := spn_in (T := T) (n := n) hP k (p + 1) (by omega)
      simp only [List.length_cons]
      omega
    · show p + ((0 : Nat) : Int) ≤ n
      omega
theorem jn_readKey_ok {β : Bool} {d : Nat} {h : jx_H} {σ : mS} (hl : 49 ≤ h.length) {T : Int → Int} {n p : Int} (ht : tOK T n) (e1 : σ 1 = T) (e2 : σ 2 0 = n) (e28 : σ 28 0 = p) (h0 : 0 ≤ p) (hp : p ≤ n) (he : mr (σ 29 0)) {r : List Int} {q : Int} (hs : sKey T n p = .inr (r, q)) : jx_r (jz β) jw_M (d + 2) 218 (0, [some (.ref 15), none], [], ml_mk h σ) (ml_mk h (su (su σ 31 0 (pk r)) 28 0 q), .inl (some (.int (Int32.ofInt (1))))) := by
  unfold sKey at hs
  split at hs
  · cases hs
  · rename_i h1
    split at hs
    · cases hs
    · rename_i h2
      obtain ⟨r, hr⟩ : ∃ r, r = spn pL T n 8 p := ⟨_, rfl⟩
      rw [← hr] at hs h1 h2
      cases hs
      have hle := spn_le (P := pL) (T := T) (n := n) 8 p
      rw [← hr] at hle
      have hP : 97 ≤ tH T n p ∧ tH T n p ≤ 122 := by
        refine Decidable.byContradiction fun z => h1 ?_
        rw [hr, spn_f (fun q => z (of_decide_eq_true q))]
        rfl
      have hh := tH_r (p := p) ht h0
      refine jr_1 jm_218 (show jw_cd cd_218 0 = some (.aload_n 0) by decide +kernel) rfl ?_
      refine jr_1 jm_218 (F2 := (2, [some (.ref 15), none], [.long (Int64.ofInt (0)), .ref 15], ml_mk h σ)) (show jw_cd cd_218 1 = some (.lconst 0) by decide +kernel) rfl ?_
      refine jr_1 jm_218 (show jw_cd cd_218 2 = some (.putfield 158) by decide +kernel) (mp_j hl (x := 0) (show jw_fld 34 158 16 = some 31 by decide +kernel) (by decide) (by decide) (show jw_ft 16 31 = some .long by decide +kernel) (show jw_fm 34 16 31 = some false by decide +kernel)) ?_
      refine jr_1 jm_218 (show jw_cd cd_218 5 = some (.iconst 0) by decide +kernel) rfl ?_
      refine jr_1 jm_218 (F2 := (7, [some (.ref 15), some (.int (Int32.ofInt (0)))], [], ml_mk h (su σ 31 (0) (0)))) (show jw_cd cd_218 6 = some (.istore_n 1) by decide +kernel) rfl ?_
      refine jr_1 jm_218 (show jw_cd cd_218 7 = some (.aload_n 0) by decide +kernel) rfl ?_
      refine jr_c jm_218 (show jw_cd cd_218 8 = some (.invokevirtual 151) by decide +kernel) (mc_v hl (n := 0) (m2 := 215) (bs := []) (r := []) (show jw_find jw_cvT 34 151 = some (0, [(16, 215)]) by decide +kernel) (by decide) rfl rfl rfl) jm_215 ⟨Nat.le_of_ble_eq_true rfl, by decide⟩ (jn_hereP hl ht (T := T) (n := n) (p := p) ((su_row (by decide)).trans e1) ((su_nf (by decide)).trans e2) ((su_nf (by decide)).trans e28) (by omega) (by omega)) ?_
      refine jr_c jm_218 (show jw_cd cd_218 11 = some (.invokestatic 162) by decide +kernel) (mc_s (n := 1) (m2 := 219) (bs := [.int (Int32.ofInt (tH T n (p)))]) (r := []) (by decide) (show jw_find jw_csT 34 162 = some (219, 1) by decide +kernel) rfl rfl rfl) jm_219 ⟨Nat.le_of_ble_eq_true rfl, by decide⟩ (jn_isL_t hl hP) ?_
      refine jr_1 jm_218 (show jw_cd cd_218 14 = some (.ifCond .ne 13) by decide +kernel) (mz_t (q := .ne) (a := 1) (t := 27) (by show ¬ (1 = 0); omega) ⟨by omega, by omega⟩ (by decide) (by decide)) ?_
      have e := (jn_rk_loop (β := β) hl T n ht e1 e2 he 7 [] p rfl h0 hp r hr (d := d + 1)).1 (by omega)
      rw [List.nil_append] at e
      rw [show (su σ 31 (0) (0)) = su (su σ 31 0 (pk [])) 28 0 p from by rw [su_c (by decide), ← e28, su_id]; rfl]
      exact e
theorem jn_readKey_er {β : Bool} {d : Nat} {h : jx_H} {σ : mS} (hl : 49 ≤ h.length) {T : Int → Int} {n p : Int} (ht : tOK T n) (e1 : σ 1 = T) (e2 : σ 2 0 = n) (e28 : σ 28 0 = p) (h0 : 0 ≤ p) (hp : p ≤ n) (he : mr (σ 29 0)) (he0 : σ 29 0 = 0) {w : Int} (hs : sKey T n p = .inl w) : ∃ τ : mS, jx_r (jz β) jw_M (d + 2) 218 (0, [some (.ref 15), none], [], ml_mk h σ) (ml_mk h (τ), .inl (some (.int (Int32.ofInt (0))))) ∧ τ 29 0 = -1 - w ∧ mEq [28, 29, 31] σ τ := by
  have hh := tH_r (p := p) ht h0
  unfold sKey at hs
  split at hs
  · rename_i h1
    cases hs
    have hP : ¬ (97 ≤ tH T n p ∧ tH T n p ≤ 122) := by
      intro z
      rw [spn_t (decide_eq_true z)] at h1
      cases h1
    refine ⟨mWrong (su σ 31 (0) (0)) (σ 28 0), ?_, ?_, ?_⟩
    · skip
      refine jr_1 jm_218 (show jw_cd cd_218 0 = some (.aload_n 0) by decide +kernel) rfl ?_
      refine jr_1 jm_218 (F2 := (2, [some (.ref 15), none], [.long (Int64.ofInt (0)), .ref 15], ml_mk h σ)) (show jw_cd cd_218 1 = some (.lconst 0) by decide +kernel) rfl ?_
      refine jr_1 jm_218 (show jw_cd cd_218 2 = some (.putfield 158) by decide +kernel) (mp_j hl (x := 0) (show jw_fld 34 158 16 = some 31 by decide +kernel) (by decide) (by decide) (show jw_ft 16 31 = some .long by decide +kernel) (show jw_fm 34 16 31 = some false by decide +kernel)) ?_
      refine jr_1 jm_218 (show jw_cd cd_218 5 = some (.iconst 0) by decide +kernel) rfl ?_
      refine jr_1 jm_218 (F2 := (7, [some (.ref 15), some (.int (Int32.ofInt (0)))], [], ml_mk h (su σ 31 (0) (0)))) (show jw_cd cd_218 6 = some (.istore_n 1) by decide +kernel) rfl ?_
      refine jr_1 jm_218 (show jw_cd cd_218 7 = some (.aload_n 0) by decide +kernel) rfl ?_
      refine jr_c jm_218 (show jw_cd cd_218 8 = some (.invokevirtual 151) by decide +kernel) (mc_v hl (n := 0) (m2 := 215) (bs := []) (r := []) (show jw_find jw_cvT 34 151 = some (0, [(16, 215)]) by decide +kernel) (by decide) rfl rfl rfl) jm_215 ⟨Nat.le_of_ble_eq_true rfl, by decide⟩ (jn_hereP hl ht (T := T) (n := n) (p := p) ((su_row (by decide)).trans e1) ((su_nf (by decide)).trans e2) ((su_nf (by decide)).trans e28) (by omega) (by omega)) ?_
      refine jr_c jm_218 (show jw_cd cd_218 11 = some (.invokestatic 162) by decide +kernel) (mc_s (n := 1) (m2 := 219) (bs := [.int (Int32.ofInt (tH T n (p)))]) (r := []) (by decide) (show jw_find jw_csT 34 162 = some (219, 1) by decide +kernel) rfl rfl rfl) jm_219 ⟨Nat.le_of_ble_eq_true rfl, by decide⟩ (jn_isL_f hl ⟨by omega, by omega⟩ hP) ?_
      refine jr_1 jm_218 (show jw_cd cd_218 14 = some (.ifCond .ne 13) by decide +kernel) (mz_f (q := .ne) (a := 0) (by show ¬ (¬ (0 = 0)); omega) ⟨by omega, by omega⟩ (by decide)) ?_
      refine jr_1 jm_218 (show jw_cd cd_218 17 = some (.aload_n 0) by decide +kernel) rfl ?_
      refine jr_1 jm_218 (show jw_cd cd_218 18 = some (.aload_n 0) by decide +kernel) rfl ?_
      refine jr_1 jm_218 (show jw_cd cd_218 19 = some (.getfield 145) by decide +kernel) (mg_i hl (e := σ 28 0) (su_nf (by decide)) (show jw_fld 34 145 16 = some 28 by decide +kernel) (by decide) (by decide)) ?_
      refine jr_c jm_218 (show jw_cd cd_218 22 = some (.invokevirtual 155) by decide +kernel) (mc_v hl (n := 1) (m2 := 216) (bs := [.int (Int32.ofInt (σ 28 0))]) (r := []) (show jw_find jw_cvT 34 155 = some (1, [(16, 216)]) by decide +kernel) (by decide) rfl rfl rfl) jm_216 ⟨Nat.le_of_ble_eq_true rfl, by decide⟩ (jn_wrong hl (by rw [show (su σ 31 (0) (0)) 29 0 = σ 29 0 from (su_nf (by decide))]; exact he)) ?_
      refine jr_1 jm_218 (show jw_cd cd_218 25 = some (.iconst 0) by decide +kernel) rfl ?_
      exact jr_v jm_218 (show jw_cd cd_218 26 = some (.ireturn) by decide +kernel) rfl
    · rw [mWrong_0 ((su_nf (by decide)).trans he0), e28]
    · exact mEq_wrong (mEq_su (mEq_refl _ _) (by decide)) (by decide)
  · rename_i h1
    split at hs
    · rename_i h2
      cases hs
      have hP : 97 ≤ tH T n p ∧ tH T n p ≤ 122 := by
        refine Decidable.byContradiction fun z => h1 ?_
        rw [spn_f (fun q => z (of_decide_eq_true q))]
        rfl
      have e := (jn_rk_loop (β := β) hl T n ht e1 e2 he 7 [] p rfl h0 hp _ rfl (d := d + 1)).2 h2
      refine ⟨mWrong (su (su σ 31 0 (pk ([] ++ (spn pL T n 8 p).take 7))) 28 0 (p + ((7 : Nat) : Int))) (p + ((7 : Nat) : Int)), ?_, ?_, ?_⟩
      · skip
        refine jr_1 jm_218 (show jw_cd cd_218 0 = some (.aload_n 0) by decide +kernel) rfl ?_
        refine jr_1 jm_218 (F2 := (2, [some (.ref 15), none], [.long (Int64.ofInt (0)), .ref 15], ml_mk h σ)) (show jw_cd cd_218 1 = some (.lconst 0) by decide +kernel) rfl ?_
        refine jr_1 jm_218 (show jw_cd cd_218 2 = some (.putfield 158) by decide +kernel) (mp_j hl (x := 0) (show jw_fld 34 158 16 = some 31 by decide +kernel) (by decide) (by decide) (show jw_ft 16 31 = some .long by decide +kernel) (show jw_fm 34 16 31 = some false by decide +kernel)) ?_
        refine jr_1 jm_218 (show jw_cd cd_218 5 = some (.iconst 0) by decide +kernel) rfl ?_
        refine jr_1 jm_218 (F2 := (7, [some (.ref 15), some (.int (Int32.ofInt (0)))], [], ml_mk h (su σ 31 (0) (0)))) (show jw_cd cd_218 6 = some (.istore_n 1) by decide +kernel) rfl ?_
        refine jr_1 jm_218 (show jw_cd cd_218 7 = some (.aload_n 0) by decide +kernel) rfl ?_
        refine jr_c jm_218 (show jw_cd cd_218 8 = some (.invokevirtual 151) by decide +kernel) (mc_v hl (n := 0) (m2 := 215) (bs := []) (r := []) (show jw_find jw_cvT 34 151 = some (0, [(16, 215)]) by decide +kernel) (by decide) rfl rfl rfl) jm_215 ⟨Nat.le_of_ble_eq_true rfl, by decide⟩ (jn_hereP hl ht (T := T) (n := n) (p := p) ((su_row (by decide)).trans e1) ((su_nf (by decide)).trans e2) ((su_nf (by decide)).trans e28) (by omega) (by omega)) ?_
        refine jr_c jm_218 (show jw_cd cd_218 11 = some (.invokestatic 162) by decide +kernel) (mc_s (n := 1) (m2 := 219) (bs := [.int (Int32.ofInt (tH T n (p)))]) (r := []) (by decide) (show jw_find jw_csT 34 162 = some (219, 1) by decide +kernel) rfl rfl rfl) jm_219 ⟨Nat.le_of_ble_eq_true rfl, by decide⟩ (jn_isL_t hl hP) ?_
        refine jr_1 jm_218 (show jw_cd cd_218 14 = some (.ifCond .ne 13) by decide +kernel) (mz_t (q := .ne) (a := 1) (t := 27) (by show ¬ (1 = 0); omega) ⟨by omega, by omega⟩ (by decide) (by decide)) ?_
        rw [show (su σ 31 (0) (0)) = su (su σ 31 0 (pk [])) 28 0 p from by rw [su_c (by decide), ← e28, su_id]; rfl]
        exact e
      · exact mWrong_0 ((su_nf (by decide)).trans ((su_nf (by decide)).trans he0))
      · exact mEq_wrong (mEq_su (mEq_su (mEq_refl _ _) (by decide)) (by decide)) (by decide)
    · cases hs
theorem jn_readText_ok {β : Bool} {d : Nat} {h : jx_H} {σ : mS} (hl : 49 ≤ h.length) {T : Int → Int} {n p : Int} (ht : tOK T n) (e1 : σ 1 = T) (e2 : σ 2 0 = n) (e28 : σ 28 0 = p) (h0 : 0 ≤ p) (hp : p < n) (he : mr (σ 29 0)) {r : List Int} {q : Int} (hs : sText T n p = .inr (r, q)) : jx_r (jz β) jw_M (d + 2 + 1) 227 (0, [some (.ref 15), none], [], ml_mk h σ) (ml_mk h (su (su σ 31 0 (pk r)) 28 0 q), .inl (some (.int (Int32.ofInt (1))))) := by
  unfold sText at hs
  split at hs
  · cases hs
  · rename_i h1
    split at hs
    · rename_i h3
      obtain ⟨r, hr⟩ : ∃ r, r = spn pX T n 8 (p + 1) := ⟨_, rfl⟩
      rw [← hr] at hs h1 h3
      cases hs
      have hin := spn_in (P := pX) (T := T) (n := n) (by decide) 8 (p + 1) (by omega)
      have hle := spn_le (P := pX) (T := T) (n := n) 8 (p + 1)
      rw [← hr] at hin hle
      refine jr_1 jm_227 (show jw_cd cd_227 0 = some (.aload_n 0) by decide +kernel) rfl ?_
      refine jr_1 jm_227 (F2 := (2, [some (.ref 15), none], [.long (Int64.ofInt (0)), .ref 15], ml_mk h σ)) (show jw_cd cd_227 1 = some (.lconst 0) by decide +kernel) rfl ?_
      refine jr_1 jm_227 (show jw_cd cd_227 2 = some (.putfield 158) by decide +kernel) (mp_j hl (x := 0) (show jw_fld 34 158 16 = some 31 by decide +kernel) (by decide) (by decide) (show jw_ft 16 31 = some .long by decide +kernel) (show jw_fm 34 16 31 = some false by decide +kernel)) ?_
      refine jr_1 jm_227 (show jw_cd cd_227 5 = some (.iconst 0) by decide +kernel) rfl ?_
      refine jr_1 jm_227 (F2 := (7, [some (.ref 15), some (.int (Int32.ofInt (0)))], [], ml_mk h (su σ 31 (0) (0)))) (show jw_cd cd_227 6 = some (.istore_n 1) by decide +kernel) rfl ?_
      refine jr_1 jm_227 (show jw_cd cd_227 7 = some (.aload_n 0) by decide +kernel) rfl ?_
      refine jr_1 jm_227 (show jw_cd cd_227 8 = some (.dup) by decide +kernel) rfl ?_
      refine jr_1 jm_227 (show jw_cd cd_227 9 = some (.getfield 145) by decide +kernel) (mg_i hl (e := σ 28 0) (su_nf (by decide)) (show jw_fld 34 145 16 = some 28 by decide +kernel) (by decide) (by decide)) ?_
      refine jr_1 jm_227 (show jw_cd cd_227 12 = some (.iconst 1) by decide +kernel) rfl ?_
      refine jr_1 jm_227 (show jw_cd cd_227 13 = some (.iadd) by decide +kernel) (mt_add (c := σ 28 0 + 1) rfl) ?_
      refine jr_1 jm_227 (show jw_cd cd_227 14 = some (.putfield 145) by decide +kernel) (mp_i hl (x := σ 28 0 + 1) (show jw_fld 34 145 16 = some 28 by decide +kernel) (by decide) (by decide) (show jw_ft 16 28 = some .int by decide +kernel) (show jw_fm 34 16 28 = some false by decide +kernel)) ?_
      rw [show (su (su σ 31 (0) (0)) 28 (0) (σ 28 0 + 1)) = su (su σ 31 0 (pk [])) 28 0 (p + 1) from by rw [e28]; rfl]
      refine (jn_rt_loop hl T n ht e1 e2 he 7 [] (p + 1) rfl (by omega) (by omega) r hr _ (d := d + 1 + 1)).1 (by omega) ?_
      rw [show su (su σ 31 0 (pk r)) 28 0 (p + 1 + (r.length : Int) + 1) = mTake (su (su σ 31 (0) (pk ([] ++ r))) 28 (0) (p + 1 + (r.length : Int))) from by unfold mTake; rw [su_eq, su_2]; rfl]
      refine jr_1 jm_227 (show jw_cd cd_227 82 = some (.aload_n 0) by decide +kernel) rfl ?_
      refine jr_1 jm_227 (show jw_cd cd_227 83 = some (.bipush 39) by decide +kernel) (mt_bi (by decide)) ?_
      refine jr_c jm_227 (show jw_cd cd_227 85 = some (.invokevirtual 179) by decide +kernel) (mc_v hl (n := 1) (m2 := 221) (bs := [.int (Int32.ofInt (39))]) (r := []) (show jw_find jw_cvT 34 179 = some (1, [(16, 221)]) by decide +kernel) (by decide) rfl rfl rfl) jm_221 ⟨Nat.le_of_ble_eq_true rfl, by decide⟩ (jn_must_t hl (mT_mk ht ((((su_row (by decide)).trans (su_row (by decide)))).trans e1) ((((su_nf (by decide)).trans (su_nf (by decide)))).trans e2) ((su_eq _ _ _ _)) (by omega) hin) ⟨by omega, by omega⟩ ((mHere_mk (T := T) (n := n) (p := p + 1 + (r.length : Int)) ((((su_row (by decide)).trans (su_row (by decide)))).trans e1) ((((su_nf (by decide)).trans (su_nf (by decide)))).trans e2) ((su_eq _ _ _ _))).trans h3)) ?_
      exact jr_v jm_227 (show jw_cd cd_227 88 = some (.ireturn) by decide +kernel) rfl
    · cases hs
theorem jn_readText_er {β : Bool} {d : Nat} {h : jx_H} {σ : mS} (hl : 49 ≤ h.length) {T : Int → Int} {n p : Int} (ht : tOK T n) (e1 : σ 1 = T) (e2 : σ 2 0 = n) (e28 : σ 28 0 = p) (h0 : 0 ≤ p) (hp : p < n) (he : mr (σ 29 0)) (he0 : σ 29 0 = 0) {w : Int} (hs : sText T n p = .inl w) : ∃ τ : mS, jx_r (jz β) jw_M (d + 2 + 1) 227 (0, [some (.ref 15), none], [], ml_mk h σ) (ml_mk h (τ), .inl (some (.int (Int32.ofInt (0))))) ∧ τ 29 0 = -1 - w ∧ mEq [28, 29, 31] σ τ := by
  unfold sText at hs
  split at hs
  · rename_i h1
    cases hs
    refine ⟨mWrong (su (su σ 31 0 (pk ([] ++ (spn pX T n 8 (p + 1)).take 7))) 28 0 (p + 1 + ((7 : Nat) : Int))) (p + 1 + ((7 : Nat) : Int)), ?_, ?_, ?_⟩
    · skip
      refine jr_1 jm_227 (show jw_cd cd_227 0 = some (.aload_n 0) by decide +kernel) rfl ?_
      refine jr_1 jm_227 (F2 := (2, [some (.ref 15), none], [.long (Int64.ofInt (0)), .ref 15], ml_mk h σ)) (show jw_cd cd_227 1 = some (.lconst 0) by decide +kernel) rfl ?_
      refine jr_1 jm_227 (show jw_cd cd_227 2 = some (.putfield 158) by decide +kernel) (mp_j hl (x := 0) (show jw_fld 34 158 16 = some 31 by decide +kernel) (by decide) (by decide) (show jw_ft 16 31 = some .long by decide +kernel) (show jw_fm 34 16 31 = some false by decide +kernel)) ?_
      refine jr_1 jm_227 (show jw_cd cd_227 5 = some (.iconst 0) by decide +kernel) rfl ?_
      refine jr_1 jm_227 (F2 := (7, [some (.ref 15), some (.int (Int32.ofInt (0)))], [], ml_mk h (su σ 31 (0) (0)))) (show jw_cd cd_227 6 = some (.istore_n 1) by decide +kernel) rfl ?_
      refine jr_1 jm_227 (show jw_cd cd_227 7 = some (.aload_n 0) by decide +kernel) rfl ?_
      refine jr_1 jm_227 (show jw_cd cd_227 8 = some (.dup) by decide +kernel) rfl ?_
      refine jr_1 jm_227 (show jw_cd cd_227 9 = some (.getfield 145) by decide +kernel) (mg_i hl (e := σ 28 0) (su_nf (by decide)) (show jw_fld 34 145 16 = some 28 by decide +kernel) (by decide) (by decide)) ?_
      refine jr_1 jm_227 (show jw_cd cd_227 12 = some (.iconst 1) by decide +kernel) rfl ?_
      refine jr_1 jm_227 (show jw_cd cd_227 13 = some (.iadd) by decide +kernel) (mt_add (c := σ 28 0 + 1) rfl) ?_
      refine jr_1 jm_227 (show jw_cd cd_227 14 = some (.putfield 145) by decide +kernel) (mp_i hl (x := σ 28 0 + 1) (show jw_fld 34 145 16 = some 28 by decide +kernel) (by decide) (by decide) (show jw_ft 16 28 = some .int by decide +kernel) (show jw_fm 34 16 28 = some false by decide +kernel)) ?_
      rw [show (su (su σ 31 (0) (0)) 28 (0) (σ 28 0 + 1)) = su (su σ 31 0 (pk [])) 28 0 (p + 1) from by rw [e28]; rfl]
      exact (jn_rt_loop hl T n ht e1 e2 he 7 [] (p + 1) rfl (by omega) (by omega) _ rfl (ml_mk h σ, .inl none) (d := d + 1 + 1)).2 h1
    · exact mWrong_0 ((su_nf (by decide)).trans ((su_nf (by decide)).trans he0))
    · exact mEq_wrong (mEq_su (mEq_su (mEq_refl _ _) (by decide)) (by decide)) (by decide)
  · rename_i h1
    split at hs
    · cases hs
    · rename_i h3
      obtain ⟨r, hr⟩ : ∃ r, r = spn pX T n 8 (p + 1) := ⟨_, rfl⟩
      rw [← hr] at hs h1 h3
      cases hs
      have hin := spn_in (P := pX) (T := T) (n := n) (by decide) 8 (p + 1) (by omega)
      have hle := spn_le (P := pX) (T := T) (n := n) 8 (p + 1)
      rw [← hr] at hin hle
      refine ⟨mWrong (su (su σ 31 (0) (pk ([] ++ r))) 28 (0) (p + 1 + (r.length : Int))) ((su (su σ 31 (0) (pk ([] ++ r))) 28 (0) (p + 1 + (r.length : Int))) 28 0), ?_, ?_, ?_⟩
      · skip
        refine jr_1 jm_227 (show jw_cd cd_227 0 = some (.aload_n 0) by decide +kernel) rfl ?_
        refine jr_1 jm_227 (F2 := (2, [some (.ref 15), none], [.long (Int64.ofInt (0)), .ref 15], ml_mk h σ)) (show jw_cd cd_227 1 = some (.lconst 0) by decide +kernel) rfl ?_
        refine jr_1 jm_227 (show jw_cd cd_227 2 = some (.putfield 158) by decide +kernel) (mp_j hl (x := 0) (show jw_fld 34 158 16 = some 31 by decide +kernel) (by decide) (by decide) (show jw_ft 16 31 = some .long by decide +kernel) (show jw_fm 34 16 31 = some false by decide +kernel)) ?_
        refine jr_1 jm_227 (show jw_cd cd_227 5 = some (.iconst 0) by decide +kernel) rfl ?_
        refine jr_1 jm_227 (F2 := (7, [some (.ref 15), some (.int (Int32.ofInt (0)))], [], ml_mk h (su σ 31 (0) (0)))) (show jw_cd cd_227 6 = some (.istore_n 1) by decide +kernel) rfl ?_
        refine jr_1 jm_227 (show jw_cd cd_227 7 = some (.aload_n 0) by decide +kernel) rfl ?_
        refine jr_1 jm_227 (show jw_cd cd_227 8 = some (.dup) by decide +kernel) rfl ?_
        refine jr_1 jm_227 (show jw_cd cd_227 9 = some (.getfield 145) by decide +kernel) (mg_i hl (e := σ 28 0) (su_nf (by decide)) (show jw_fld 34 145 16 = some 28 by decide +kernel) (by decide) (by decide)) ?_
        refine jr_1 jm_227 (show jw_cd cd_227 12 = some (.iconst 1) by decide +kernel) rfl ?_
        refine jr_1 jm_227 (show jw_cd cd_227 13 = some (.iadd) by decide +kernel) (mt_add (c := σ 28 0 + 1) rfl) ?_
        refine jr_1 jm_227 (show jw_cd cd_227 14 = some (.putfield 145) by decide +kernel) (mp_i hl (x := σ 28 0 + 1) (show jw_fld 34 145 16 = some 28 by decide +kernel) (by decide) (by decide) (show jw_ft 16 28 = some .int by decide +kernel) (show jw_fm 34 16 28 = some false by decide +kernel)) ?_
        rw [show (su (su σ 31 (0) (0)) 28 (0) (σ 28 0 + 1)) = su (su σ 31 0 (pk [])) 28 0 (p + 1) from by rw [e28]; rfl]
        refine (jn_rt_loop hl T n ht e1 e2 he 7 [] (p + 1) rfl (by omega) (by omega) r hr _ (d := d + 1 + 1)).1 (by omega) ?_
        refine jr_1 jm_227 (show jw_cd cd_227 82 = some (.aload_n 0) by decide +kernel) rfl ?_
        refine jr_1 jm_227 (show jw_cd cd_227 83 = some (.bipush 39) by decide +kernel) (mt_bi (by decide)) ?_
        refine jr_c jm_227 (show jw_cd cd_227 85 = some (.invokevirtual 179) by decide +kernel) (mc_v hl (n := 1) (m2 := 221) (bs := [.int (Int32.ofInt (39))]) (r := []) (show jw_find jw_cvT 34 179 = some (1, [(16, 221)]) by decide +kernel) (by decide) rfl rfl rfl) jm_221 ⟨Nat.le_of_ble_eq_true rfl, by decide⟩ (jn_must_f hl (mT_mk ht ((((su_row (by decide)).trans (su_row (by decide)))).trans e1) ((((su_nf (by decide)).trans (su_nf (by decide)))).trans e2) ((su_eq _ _ _ _)) (by omega) hin) (by rw [show (su (su σ 31 (0) (pk ([] ++ r))) 28 (0) (p + 1 + (r.length : Int))) 29 0 = σ 29 0 from ((su_nf (by decide)).trans (su_nf (by decide)))]; exact he) ⟨by omega, by omega⟩ (fun z => h3 ((mHere_mk (T := T) (n := n) (p := p + 1 + (r.length : Int)) ((((su_row (by decide)).trans (su_row (by decide)))).trans e1) ((((su_nf (by decide)).trans (su_nf (by decide)))).trans e2) ((su_eq _ _ _ _))).symm.trans z))) ?_
        exact jr_v jm_227 (show jw_cd cd_227 88 = some (.ireturn) by decide +kernel) rfl
      · rw [mWrong_0 ((su_nf (by decide)).trans ((su_nf (by decide)).trans he0)), su_eq]
      · exact mEq_wrong (mEq_su (mEq_su (mEq_refl _ _) (by decide)) (by decide)) (by decide)
