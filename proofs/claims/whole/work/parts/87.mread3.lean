/-! ===== the model reads a number (printed by program: gen17.py) ===== -/
def dg (l : List Int) : Int := l.foldl (fun v c => 10 * v + c - 48) 0
theorem dg_snoc (l : List Int) (c : Int) : dg (l ++ [c]) = 10 * dg l + c - 48 := by
  unfold dg
  rw [List.foldl_append]
  rfl
theorem jn_rn_loop {β : Bool} {d : Nat} {h : jx_H} {σ : mS} (hl : 49 ≤ h.length) (T : Int → Int) (n : Int) (ht : tOK T n) (e1 : σ 1 = T) (e2 : σ 2 0 = n) (he : mr (σ 29 0)) (m : Int) : ∀ (k : Nat) (l : List Int) (p : Int), l.length + (k + 1) = 7 → 0 ≤ p → p ≤ n → ∀ r, r = spn pD T n (k + 1) p → ∀ res, (r.length < k + 1 → (jx_r (jz β) jw_M (d + 1) 225 (95, [some (.ref 15), some (.int (Int32.ofInt (m))), some (.int (Int32.ofInt ((l.length : Int) + (r.length : Int))))], [], ml_mk h (su (su σ 32 (0) (dg (l ++ r))) 28 (0) (p + (r.length : Int)))) res) → jx_r (jz β) jw_M (d + 1) 225 (34, [some (.ref 15), some (.int (Int32.ofInt (m))), some (.int (Int32.ofInt ((l.length : Int))))], [], ml_mk h (su (su σ 32 (0) (dg l)) 28 (0) (p)))  res) ∧ (r.length = k + 1 → jx_r (jz β) jw_M (d + 1) 225 (34, [some (.ref 15), some (.int (Int32.ofInt (m))), some (.int (Int32.ofInt ((l.length : Int))))], [], ml_mk h (su (su σ 32 (0) (dg l)) 28 (0) (p)))  (ml_mk h (mWrong (su (su σ 32 (0) (dg (l ++ r.take k))) 28 (0) (p + (k : Int))) (p + (k : Int))), .inl (some (.int (Int32.ofInt (0)))))) := by
  intro k
  induction k with
  | zero =>
    intro l p hlen h0 hp r hr res
    have hh := tH_r (p := p) ht h0
    by_cases hP : 48 ≤ tH T n p ∧ tH T n p ≤ 57
    · rw [spn_t (decide_eq_true hP)] at hr
      have hr2 : r = [tH T n p] := hr
      subst hr2
      refine ⟨fun q _ => absurd q (by simp), fun _ => ?_⟩
      rw [show (l ++ [tH T n p].take 0) = l by simp, show p + ((0 : Nat) : Int) = p by omega]
      refine jr_1 jm_225 (show jw_cd cd_225 34 = some (.aload_n 0) by decide +kernel) rfl ?_
      refine jr_c jm_225 (show jw_cd cd_225 35 = some (.invokevirtual 151) by decide +kernel) (mc_v hl (n := 0) (m2 := 215) (bs := []) (r := []) (show jw_find jw_cvT 34 151 = some (0, [(16, 215)]) by decide +kernel) (by decide) rfl rfl rfl) jm_215 ⟨Nat.le_of_ble_eq_true rfl, by decide⟩ (jn_hereP hl ht (T := T) (n := n) (p := p) (((su_row (by decide)).trans (su_row (by decide))).trans e1) (((su_nf (by decide)).trans (su_nf (by decide))).trans e2) ((su_eq _ _ _ _).trans rfl) (by omega) (by omega)) ?_
      refine jr_c jm_225 (show jw_cd cd_225 38 = some (.invokestatic 176) by decide +kernel) (mc_s (n := 1) (m2 := 224) (bs := [.int (Int32.ofInt (tH T n (p)))]) (r := []) (by decide) (show jw_find jw_csT 34 176 = some (224, 1) by decide +kernel) rfl rfl rfl) jm_224 ⟨Nat.le_of_ble_eq_true rfl, by decide⟩ (jn_isD_t hl hP) ?_
      refine jr_1 jm_225 (show jw_cd cd_225 41 = some (.ifCond .eq 54) by decide +kernel) (mz_f (q := .eq) (a := 1) (by show ¬ (1 = 0); omega) ⟨by omega, by omega⟩ (by decide)) ?_
      refine jr_1 jm_225 (show jw_cd cd_225 44 = some (.iload_n 2) by decide +kernel) rfl ?_
      refine jr_1 jm_225 (show jw_cd cd_225 45 = some (.bipush 6) by decide +kernel) (mt_bi (by decide)) ?_
      refine jr_1 jm_225 (show jw_cd cd_225 47 = some (.if_icmp .ne 13) by decide +kernel) (mb_f (q := .ne) (a := (l.length : Int)) (b := 6) (by show ¬ (¬ ((l.length : Int) = 6)); omega) ⟨by omega, by omega⟩ ⟨by omega, by omega⟩ (by decide)) ?_
      refine jr_1 jm_225 (show jw_cd cd_225 50 = some (.aload_n 0) by decide +kernel) rfl ?_
      refine jr_1 jm_225 (show jw_cd cd_225 51 = some (.aload_n 0) by decide +kernel) rfl ?_
      refine jr_1 jm_225 (show jw_cd cd_225 52 = some (.getfield 145) by decide +kernel) (mg_i hl (e := p) (su_eq _ _ _ _) (show jw_fld 34 145 16 = some 28 by decide +kernel) (by decide) (by decide)) ?_
      refine jr_c jm_225 (show jw_cd cd_225 55 = some (.invokevirtual 155) by decide +kernel) (mc_v hl (n := 1) (m2 := 216) (bs := [.int (Int32.ofInt (p))]) (r := []) (show jw_find jw_cvT 34 155 = some (1, [(16, 216)]) by decide +kernel) (by decide) rfl rfl rfl) jm_216 ⟨Nat.le_of_ble_eq_true rfl, by decide⟩ (jn_wrong hl (by rw [show (su (su σ 32 (0) (dg l)) 28 (0) (p)) 29 0 = σ 29 0 from ((su_nf (by decide)).trans (su_nf (by decide)))]; exact he)) ?_
      refine jr_1 jm_225 (show jw_cd cd_225 58 = some (.iconst 0) by decide +kernel) rfl ?_
      exact jr_v jm_225 (show jw_cd cd_225 59 = some (.ireturn) by decide +kernel) rfl
    · rw [spn_f (fun q => hP (of_decide_eq_true q))] at hr
      subst hr
      refine ⟨fun _ q => ?_, fun q => absurd q (by simp)⟩
      · rw [List.append_nil, show p + (([] : List Int).length : Int) = p by simp, show (l.length : Int) + (([] : List Int).length : Int) = (l.length : Int) by simp] at q
        refine jr_1 jm_225 (show jw_cd cd_225 34 = some (.aload_n 0) by decide +kernel) rfl ?_
        refine jr_c jm_225 (show jw_cd cd_225 35 = some (.invokevirtual 151) by decide +kernel) (mc_v hl (n := 0) (m2 := 215) (bs := []) (r := []) (show jw_find jw_cvT 34 151 = some (0, [(16, 215)]) by decide +kernel) (by decide) rfl rfl rfl) jm_215 ⟨Nat.le_of_ble_eq_true rfl, by decide⟩ (jn_hereP hl ht (T := T) (n := n) (p := p) (((su_row (by decide)).trans (su_row (by decide))).trans e1) (((su_nf (by decide)).trans (su_nf (by decide))).trans e2) ((su_eq _ _ _ _).trans rfl) (by omega) (by omega)) ?_
        refine jr_c jm_225 (show jw_cd cd_225 38 = some (.invokestatic 176) by decide +kernel) (mc_s (n := 1) (m2 := 224) (bs := [.int (Int32.ofInt (tH T n (p)))]) (r := []) (by decide) (show jw_find jw_csT 34 176 = some (224, 1) by decide +kernel) rfl rfl rfl) jm_224 ⟨Nat.le_of_ble_eq_true rfl, by decide⟩ (jn_isD_f hl ⟨by omega, by omega⟩ hP) ?_
        refine jr_1 jm_225 (show jw_cd cd_225 41 = some (.ifCond .eq 54) by decide +kernel) (mz_t (q := .eq) (a := 0) (t := 95) (by show 0 = 0; omega) ⟨by omega, by omega⟩ (by decide) (by decide)) ?_
        exact q
  | succ k ih =>
    intro l p hlen h0 hp r hr res
    have hh := tH_r (p := p) ht h0
    by_cases hP : 48 ≤ tH T n p ∧ tH T n p ≤ 57
    · rw [spn_t (decide_eq_true hP)] at hr
      obtain ⟨r2, hr2⟩ : ∃ r2, r2 = spn pD T n (k + 1) (p + 1) := ⟨_, rfl⟩
      rw [← hr2] at hr
      subst hr
      have hi := ih (l ++ [tH T n p]) (p + 1) (by simp; omega) (by omega) (by omega) r2 hr2 res
      refine ⟨fun q kk => ?_, fun q => ?_⟩
      · rw [List.append_cons, show p + ((tH T n p :: r2).length : Int) = p + 1 + (r2.length : Int) by simp; omega, show (l.length : Int) + ((tH T n p :: r2).length : Int) = ((l ++ [tH T n p]).length : Int) + (r2.length : Int) by simp; omega] at kk
        refine jr_1 jm_225 (show jw_cd cd_225 34 = some (.aload_n 0) by decide +kernel) rfl ?_
        refine jr_c jm_225 (show jw_cd cd_225 35 = some (.invokevirtual 151) by decide +kernel) (mc_v hl (n := 0) (m2 := 215) (bs := []) (r := []) (show jw_find jw_cvT 34 151 = some (0, [(16, 215)]) by decide +kernel) (by decide) rfl rfl rfl) jm_215 ⟨Nat.le_of_ble_eq_true rfl, by decide⟩ (jn_hereP hl ht (T := T) (n := n) (p := p) (((su_row (by decide)).trans (su_row (by decide))).trans e1) (((su_nf (by decide)).trans (su_nf (by decide))).trans e2) ((su_eq _ _ _ _).trans rfl) (by omega) (by omega)) ?_
        refine jr_c jm_225 (show jw_cd cd_225 38 = some (.invokestatic 176) by decide +kernel) (mc_s (n := 1) (m2 := 224) (bs := [.int (Int32.ofInt (tH T n (p)))]) (r := []) (by decide) (show jw_find jw_csT 34 176 = some (224, 1) by decide +kernel) rfl rfl rfl) jm_224 ⟨Nat.le_of_ble_eq_true rfl, by decide⟩ (jn_isD_t hl hP) ?_
        refine jr_1 jm_225 (show jw_cd cd_225 41 = some (.ifCond .eq 54) by decide +kernel) (mz_f (q := .eq) (a := 1) (by show ¬ (1 = 0); omega) ⟨by omega, by omega⟩ (by decide)) ?_
        refine jr_1 jm_225 (show jw_cd cd_225 44 = some (.iload_n 2) by decide +kernel) rfl ?_
        refine jr_1 jm_225 (show jw_cd cd_225 45 = some (.bipush 6) by decide +kernel) (mt_bi (by decide)) ?_
        refine jr_1 jm_225 (show jw_cd cd_225 47 = some (.if_icmp .ne 13) by decide +kernel) (mb_t (q := .ne) (a := (l.length : Int)) (b := 6) (t := 60) (by show ¬ ((l.length : Int) = 6); omega) ⟨by omega, by omega⟩ ⟨by omega, by omega⟩ (by decide) (by decide)) ?_
        refine jr_1 jm_225 (show jw_cd cd_225 60 = some (.aload_n 0) by decide +kernel) rfl ?_
        refine jr_1 jm_225 (show jw_cd cd_225 61 = some (.bipush 10) by decide +kernel) (mt_bi (by decide)) ?_
        refine jr_1 jm_225 (show jw_cd cd_225 63 = some (.aload_n 0) by decide +kernel) rfl ?_
        refine jr_1 jm_225 (show jw_cd cd_225 64 = some (.getfield 173) by decide +kernel) (mg_i hl (e := dg l) ((su_nf (by decide)).trans (su_eq _ _ _ _)) (show jw_fld 34 173 16 = some 32 by decide +kernel) (by decide) (by decide)) ?_
        refine jr_1 jm_225 (show jw_cd cd_225 67 = some (.imul) by decide +kernel) (mt_mul (c := 10 * (dg l)) rfl) ?_
        refine jr_1 jm_225 (show jw_cd cd_225 68 = some (.aload_n 0) by decide +kernel) rfl ?_
        refine jr_c jm_225 (show jw_cd cd_225 69 = some (.invokevirtual 151) by decide +kernel) (mc_v hl (n := 0) (m2 := 215) (bs := []) (r := [.int (Int32.ofInt (10 * (dg l))), .ref 15]) (show jw_find jw_cvT 34 151 = some (0, [(16, 215)]) by decide +kernel) (by decide) rfl rfl rfl) jm_215 ⟨Nat.le_of_ble_eq_true rfl, by decide⟩ (jn_hereP hl ht (T := T) (n := n) (p := p) (((su_row (by decide)).trans (su_row (by decide))).trans e1) (((su_nf (by decide)).trans (su_nf (by decide))).trans e2) ((su_eq _ _ _ _).trans rfl) (by omega) (by omega)) ?_
        refine jr_1 jm_225 (show jw_cd cd_225 72 = some (.iadd) by decide +kernel) (mt_add (c := 10 * (dg l) + (tH T n (p))) rfl) ?_
        refine jr_1 jm_225 (show jw_cd cd_225 73 = some (.bipush 48) by decide +kernel) (mt_bi (by decide)) ?_
        refine jr_1 jm_225 (show jw_cd cd_225 75 = some (.isub) by decide +kernel) (mt_sub (c := 10 * (dg l) + (tH T n (p)) - 48) rfl) ?_
        refine jr_1 jm_225 (show jw_cd cd_225 76 = some (.putfield 173) by decide +kernel) (mp_i hl (x := 10 * (dg l) + (tH T n (p)) - 48) (show jw_fld 34 173 16 = some 32 by decide +kernel) (by decide) (by decide) (show jw_ft 16 32 = some .int by decide +kernel) (show jw_fm 34 16 32 = some false by decide +kernel)) ?_
        refine jr_1 jm_225 (F2 := (82, [some (.ref 15), some (.int (Int32.ofInt (m))), some (.int (Int32.ofInt ((l.length : Int) + 1)))], [], ml_mk h (su (su (su σ 32 (0) (dg l)) 28 (0) (p)) 32 (0) (10 * (dg l) + (tH T n (p)) - 48)))) (show jw_cd cd_225 79 = some (.iinc 2 1) by decide +kernel) (mt_inc (a := (l.length : Int)) (c := (l.length : Int) + 1) rfl (by omega) rfl) ?_
        refine jr_1 jm_225 (show jw_cd cd_225 82 = some (.aload_n 0) by decide +kernel) rfl ?_
        refine jr_1 jm_225 (show jw_cd cd_225 83 = some (.dup) by decide +kernel) rfl ?_
        refine jr_1 jm_225 (show jw_cd cd_225 84 = some (.getfield 145) by decide +kernel) (mg_i hl (e := p) ((su_nf (by decide)).trans (su_eq _ _ _ _)) (show jw_fld 34 145 16 = some 28 by decide +kernel) (by decide) (by decide)) ?_
        refine jr_1 jm_225 (show jw_cd cd_225 87 = some (.iconst 1) by decide +kernel) rfl ?_
        refine jr_1 jm_225 (show jw_cd cd_225 88 = some (.iadd) by decide +kernel) (mt_add (c := p + 1) rfl) ?_
        refine jr_1 jm_225 (show jw_cd cd_225 89 = some (.putfield 145) by decide +kernel) (mp_i hl (x := p + 1) (show jw_fld 34 145 16 = some 28 by decide +kernel) (by decide) (by decide) (show jw_ft 16 28 = some .int by decide +kernel) (show jw_fm 34 16 28 = some false by decide +kernel)) ?_
        refine jr_1 jm_225 (show jw_cd cd_225 92 = some (.goto (-58)) by decide +kernel) (ju_go (t := 34) (by decide)) ?_
        rw [su_4 (by decide), ← dg_snoc]
        rw [show ((l.length : Int) + 1) = ((l ++ [tH T n p]).length : Int) by simp]
        exact hi.1 (by simp at q; omega) kk
      · rw [List.take_succ_cons, List.append_cons, show p + ((k + 1 : Nat) : Int) = p + 1 + (k : Int) by omega]
        refine jr_1 jm_225 (show jw_cd cd_225 34 = some (.aload_n 0) by decide +kernel) rfl ?_
        refine jr_c jm_225 (show jw_cd cd_225 35 = some (.invokevirtual 151) by decide +kernel) (mc_v hl (n := 0) (m2 := 215) (bs := []) (r := []) (show jw_find jw_cvT 34 151 = some (0, [(16, 215)]) by decide +kernel) (by decide) rfl rfl rfl) jm_215 ⟨Nat.le_of_ble_eq_true rfl, by decide⟩ (jn_hereP hl ht (T := T) (n := n) (p := p) (((su_row (by decide)).trans (su_row (by decide))).trans e1) (((su_nf (by decide)).trans (su_nf (by decide))).trans e2) ((su_eq _ _ _ _).trans rfl) (by omega) (by omega)) ?_
        refine jr_c jm_225 (show jw_cd cd_225 38 = some (.invokestatic 176) by decide +kernel) (mc_s (n := 1) (m2 := 224) (bs := [.int (Int32.ofInt (tH T n (p)))]) (r := []) (by decide) (show jw_find jw_csT 34 176 = some (224, 1) by decide +kernel) rfl rfl rfl) jm_224 ⟨Nat.le_of_ble_eq_true rfl, by decide⟩ (jn_isD_t hl hP) ?_
        refine jr_1 jm_225 (show jw_cd cd_225 41 = some (.ifCond .eq 54) by decide +kernel) (mz_f (q := .eq) (a := 1) (by show ¬ (1 = 0); omega) ⟨by omega, by omega⟩ (by decide)) ?_
        refine jr_1 jm_225 (show jw_cd cd_225 44 = some (.iload_n 2) by decide +kernel) rfl ?_
        refine jr_1 jm_225 (show jw_cd cd_225 45 = some (.bipush 6) by decide +kernel) (mt_bi (by decide)) ?_
        refine jr_1 jm_225 (show jw_cd cd_225 47 = some (.if_icmp .ne 13) by decide +kernel) (mb_t (q := .ne) (a := (l.length : Int)) (b := 6) (t := 60) (by show ¬ ((l.length : Int) = 6); omega) ⟨by omega, by omega⟩ ⟨by omega, by omega⟩ (by decide) (by decide)) ?_
        refine jr_1 jm_225 (show jw_cd cd_225 60 = some (.aload_n 0) by decide +kernel) rfl ?_
        refine jr_1 jm_225 (show jw_cd cd_225 61 = some (.bipush 10) by decide +kernel) (mt_bi (by decide)) ?_
        refine jr_1 jm_225 (show jw_cd cd_225 63 = some (.aload_n 0) by decide +kernel) rfl ?_
        refine jr_1 jm_225 (show jw_cd cd_225 64 = some (.getfield 173) by decide +kernel) (mg_i hl (e := dg l) ((su_nf (by decide)).trans (su_eq _ _ _ _)) (show jw_fld 34 173 16 = some 32 by decide +kernel) (by decide) (by decide)) ?_
        refine jr_1 jm_225 (show jw_cd cd_225 67 = some (.imul) by decide +kernel) (mt_mul (c := 10 * (dg l)) rfl) ?_
        refine jr_1 jm_225 (show jw_cd cd_225 68 = some (.aload_n 0) by decide +kernel) rfl ?_
        refine jr_c jm_225 (show jw_cd cd_225 69 = some (.invokevirtual 151) by decide +kernel) (mc_v hl (n := 0) (m2 := 215) (bs := []) (r := [.int (Int32.ofInt (10 * (dg l))), .ref 15]) (show jw_find jw_cvT 34 151 = some (0, [(16, 215)]) by decide +kernel) (by decide) rfl rfl rfl) jm_215 ⟨Nat.le_of_ble_eq_true rfl, by decide⟩ (jn_hereP hl ht (T := T) (n := n) (p := p) (((su_row (by decide)).trans (su_row (by decide))).trans e1) (((su_nf (by decide)).trans (su_nf (by decide))).trans e2) ((su_eq _ _ _ _).trans rfl) (by omega) (by omega)) ?_
        refine jr_1 jm_225 (show jw_cd cd_225 72 = some (.iadd) by decide +kernel) (mt_add (c := 10 * (dg l) + (tH T n (p))) rfl) ?_
        refine jr_1 jm_225 (show jw_cd cd_225 73 = some (.bipush 48) by decide +kernel) (mt_bi (by decide)) ?_
        refine jr_1 jm_225 (show jw_cd cd_225 75 = some (.isub) by decide +kernel) (mt_sub (c := 10 * (dg l) + (tH T n (p)) - 48) rfl) ?_
        refine jr_1 jm_225 (show jw_cd cd_225 76 = some (.putfield 173) by decide +kernel) (mp_i hl (x := 10 * (dg l) + (tH T n (p)) - 48) (show jw_fld 34 173 16 = some 32 by decide +kernel) (by decide) (by decide) (show jw_ft 16 32 = some .int by decide +kernel) (show jw_fm 34 16 32 = some false by decide +kernel)) ?_
        refine jr_1 jm_225 (F2 := (82, [some (.ref 15), some (.int (Int32.ofInt (m))), some (.int (Int32.ofInt ((l.length : Int) + 1)))], [], ml_mk h (su (su (su σ 32 (0) (dg l)) 28 (0) (p)) 32 (0) (10 * (dg l) + (tH T n (p)) - 48)))) (show jw_cd cd_225 79 = some (.iinc 2 1) by decide +kernel) (mt_inc (a := (l.length : Int)) (c := (l.length : Int) + 1) rfl (by omega) rfl) ?_
        refine jr_1 jm_225 (show jw_cd cd_225 82 = some (.aload_n 0) by decide +kernel) rfl ?_
        refine jr_1 jm_225 (show jw_cd cd_225 83 = some (.dup) by decide +kernel) rfl ?_
        refine jr_1 jm_225 (show jw_cd cd_225 84 = some (.getfield 145) by decide +kernel) (mg_i hl (e := p) ((su_nf (by decide)).trans (su_eq _ _ _ _)) (show jw_fld 34 145 16 = some 28 by decide +kernel) (by decide) (by decide)) ?_
        refine jr_1 jm_225 (show jw_cd cd_225 87 = some (.iconst 1) by decide +kernel) rfl ?_
        refine jr_1 jm_225 (show jw_cd cd_225 88 = some (.iadd) by decide +kernel) (mt_add (c := p + 1) rfl) ?_
        refine jr_1 jm_225 (show jw_cd cd_225 89 = some (.putfield 145) by decide +kernel) (mp_i hl (x := p + 1) (show jw_fld 34 145 16 = some 28 by decide +kernel) (by decide) (by decide) (show jw_ft 16 28 = some .int by decide +kernel) (show jw_fm 34 16 28 = some false by decide +kernel)) ?_
        refine jr_1 jm_225 (show jw_cd cd_225 92 = some (.goto (-58)) by decide +kernel) (ju_go (t := 34) (by decide)) ?_
        rw [su_4 (by decide), ← dg_snoc]
        rw [show ((l.length : Int) + 1) = ((l ++ [tH T n p]).length : Int) by simp]
        exact hi.2 (by simp at q; omega)
    · rw [spn_f (fun q => hP (of_decide_eq_true q))] at hr
      subst hr
      refine ⟨fun _ q => ?_, fun q => absurd q (by simp)⟩
      · rw [List.append_nil, show p + (([] : List Int).length : Int) = p by simp, show (l.length : Int) + (([] : List Int).length : Int) = (l.length : Int) by simp] at q
        refine jr_1 jm_225 (show jw_cd cd_225 34 = some (.aload_n 0) by decide +kernel) rfl ?_
        refine jr_c jm_225 (show jw_cd cd_225 35 = some (.invokevirtual 151) by decide +kernel) (mc_v hl (n := 0) (m2 := 215) (bs := []) (r := []) (show jw_find jw_cvT 34 151 = some (0, [(16, 215)]) by decide +kernel) (by decide) rfl rfl rfl) jm_215 ⟨Nat.le_of_ble_eq_true rfl, by decide⟩ (jn_hereP hl ht (T := T) (n := n) (p := p) (((su_row (by decide)).trans (su_row (by decide))).trans e1) (((su_nf (by decide)).trans (su_nf (by decide))).trans e2) ((su_eq _ _ _ _).trans rfl) (by omega) (by omega)) ?_
        refine jr_c jm_225 (show jw_cd cd_225 38 = some (.invokestatic 176) by decide +kernel) (mc_s (n := 1) (m2 := 224) (bs := [.int (Int32.ofInt (tH T n (p)))]) (r := []) (by decide) (show jw_find jw_csT 34 176 = some (224, 1) by decide +kernel) rfl rfl rfl) jm_224 ⟨Nat.le_of_ble_eq_true rfl, by decide⟩ (jn_isD_f hl ⟨by omega, by omega⟩ hP) ?_
        refine jr_1 jm_225 (show jw_cd cd_225 41 = some (.ifCond .eq 54) by decide +kernel) (mz_t (q := .eq) (a := 0) (t := 95) (by show 0 = 0; omega) ⟨by omega, by omega⟩ (by decide) (by decide)) ?_
        exact q
def sNum (T : Int → Int) (n p : Int) : Int ⊕ (Int × Int) :=
  if (spn pD T n 7 (if tH T n p = 45 then p + 1 else p)).length = 0 then .inl (if tH T n p = 45 then p + 1 else p)
  else if (spn pD T n 7 (if tH T n p = 45 then p + 1 else p)).length = 7 then .inl ((if tH T n p = 45 then p + 1 else p) + 6)
  else .inr (if tH T n p = 45 then -dg (spn pD T n 7 (if tH T n p = 45 then p + 1 else p)) else dg (spn pD T n 7 (if tH T n p = 45 then p + 1 else p)), (if tH T n p = 45 then p + 1 else p) + (spn pD T n 7 (if tH T n p = 45 then p + 1 else p)).length)
theorem jn_rn_14 {β : Bool} {d : Nat} {h : jx_H} {σ : mS} (hl : 49 ≤ h.length) {T : Int → Int} {n q m : Int} (ht : tOK T n) (e1 : σ 1 = T) (e2 : σ 2 0 = n) (h0 : 0 ≤ q) (hq : q ≤ n) (he : mr (σ 29 0)) {r : List Int} (hr : r = spn pD T n 7 q) (h1 : ¬ r.length = 0) (h2 : ¬ r.length = 7) {res : jx_R} (kk : jx_r (jz β) jw_M (d + 1 + 1) 225 (95, [some (.ref 15), some (.int (Int32.ofInt (m))), some (.int (Int32.ofInt ((r.length : Int))))], [], ml_mk h (su (su σ 32 (0) (dg r)) 28 (0) (q + (r.length : Int)))) res) : jx_r (jz β) jw_M (d + 1 + 1) 225 (14, [some (.ref 15), some (.int (Int32.ofInt (m))), some (.int (Int32.ofInt (0)))], [], ml_mk h (su (su σ 32 (0) (0)) 28 (0) (q))) res := by
  have hh := tH_r (p := q) ht h0
  have hle := spn_le (P := pD) (T := T) (n := n) 7 q
  rw [← hr] at hle
  have hP : 48 ≤ tH T n q ∧ tH T n q ≤ 57 := by
    refine Decidable.byContradiction fun z => h1 ?_
    rw [hr, spn_f (fun q => z (of_decide_eq_true q))]
    rfl
  refine jr_1 jm_225 (show jw_cd cd_225 14 = some (.aload_n 0) by decide +kernel) rfl ?_
  refine jr_c jm_225 (show jw_cd cd_225 15 = some (.invokevirtual 151) by decide +kernel) (mc_v hl (n := 0) (m2 := 215) (bs := []) (r := []) (show jw_find jw_cvT 34 151 = some (0, [(16, 215)]) by decide +kernel) (by decide) rfl rfl rfl) jm_215 ⟨Nat.le_of_ble_eq_true rfl, by decide⟩ (jn_hereP hl ht (T := T) (n := n) (p := q) (((su_row (by decide)).trans (su_row (by decide))).trans e1) (((su_nf (by decide)).trans (su_nf (by decide))).trans e2) ((su_eq _ _ _ _).trans rfl) (by omega) (by omega)) ?_
  refine jr_c jm_225 (show jw_cd cd_225 18 = some (.invokestatic 176) by decide +kernel) (mc_s (n := 1) (m2 := 224) (bs := [.int (Int32.ofInt (tH T n (q)))]) (r := []) (by decide) (show jw_find jw_csT 34 176 = some (224, 1) by decide +kernel) rfl rfl rfl) jm_224 ⟨Nat.le_of_ble_eq_true rfl, by decide⟩ (jn_isD_t hl hP) ?_
  refine jr_1 jm_225 (show jw_cd cd_225 21 = some (.ifCond .ne 13) by decide +kernel) (mz_t (q := .ne) (a := 1) (t := 34) (by show ¬ (1 = 0); omega) ⟨by omega, by omega⟩ (by decide) (by decide)) ?_
  refine (jn_rn_loop hl T n ht e1 e2 he m 6 [] q rfl h0 hq r hr res (d := d + 1)).1 (by omega) ?_
  rw [List.nil_append, show (([] : List Int).length : Int) + (r.length : Int) = (r.length : Int) by simp]
  exact kk
theorem jn_rn_14e {β : Bool} {d : Nat} {h : jx_H} {σ : mS} (hl : 49 ≤ h.length) {T : Int → Int} {n q m : Int} (ht : tOK T n) (e1 : σ 1 = T) (e2 : σ 2 0 = n) (h0 : 0 ≤ q) (hq : q ≤ n) (he : mr (σ 29 0)) {r : List Int} (hr : r = spn pD T n 7 q) (he0 : σ 29 0 = 0) (h1 : r.length = 0 ∨ r.length = 7) : ∃ τ : mS, jx_r (jz β) jw_M (d + 1 + 1) 225 (14, [some (.ref 15), some (.int (Int32.ofInt (m))), some (.int (Int32.ofInt (0)))], [], ml_mk h (su (su σ 32 (0) (0)) 28 (0) (q))) (ml_mk h (τ), .inl (some (.int (Int32.ofInt (0))))) ∧ τ 29 0 = -1 - (if r.length = 0 then q else q + 6) ∧ mEq [28, 29, 32] σ τ := by
  have hh := tH_r (p := q) ht h0
  by_cases h0r : r.length = 0
  · have hP : ¬ (48 ≤ tH T n q ∧ tH T n q ≤ 57) := by
      intro z
      rw [hr, spn_t (decide_eq_true z)] at h0r
      cases h0r
    rw [if_pos h0r]
    refine ⟨mWrong (su (su σ 32 (0) (0)) 28 (0) (q)) (q), ?_, ?_, ?_⟩
    · skip
      refine jr_1 jm_225 (show jw_cd cd_225 14 = some (.aload_n 0) by decide +kernel) rfl ?_
      refine jr_c jm_225 (show jw_cd cd_225 15 = some (.invokevirtual 151) by decide +kernel) (mc_v hl (n := 0) (m2 := 215) (bs := []) (r := []) (show jw_find jw_cvT 34 151 = some (0, [(16, 215)]) by decide +kernel) (by decide) rfl rfl rfl) jm_215 ⟨Nat.le_of_ble_eq_true rfl, by decide⟩ (jn_hereP hl ht (T := T) (n := n) (p := q) (((su_row (by decide)).trans (su_row (by decide))).trans e1) (((su_nf (by decide)).trans (su_nf (by decide))).trans e2) ((su_eq _ _ _ _).trans rfl) (by omega) (by omega)) ?_
      refine jr_c jm_225 (show jw_cd cd_225 18 = some (.invokestatic 176) by decide +kernel) (mc_s (n := 1) (m2 := 224) (bs := [.int (Int32.ofInt (tH T n (q)))]) (r := []) (by decide) (show jw_find jw_csT 34 176 = some (224, 1) by decide +kernel) rfl rfl rfl) jm_224 ⟨Nat.le_of_ble_eq_true rfl, by decide⟩ (jn_isD_f hl ⟨by omega, by omega⟩ hP) ?_
      refine jr_1 jm_225 (show jw_cd cd_225 21 = some (.ifCond .ne 13) by decide +kernel) (mz_f (q := .ne) (a := 0) (by show ¬ (¬ (0 = 0)); omega) ⟨by omega, by omega⟩ (by decide)) ?_
      refine jr_1 jm_225 (show jw_cd cd_225 24 = some (.aload_n 0) by decide +kernel) rfl ?_
      refine jr_1 jm_225 (show jw_cd cd_225 25 = some (.aload_n 0) by decide +kernel) rfl ?_
      refine jr_1 jm_225 (show jw_cd cd_225 26 = some (.getfield 145) by decide +kernel) (mg_i hl (e := q) (su_eq _ _ _ _) (show jw_fld 34 145 16 = some 28 by decide +kernel) (by decide) (by decide)) ?_
      refine jr_c jm_225 (show jw_cd cd_225 29 = some (.invokevirtual 155) by decide +kernel) (mc_v hl (n := 1) (m2 := 216) (bs := [.int (Int32.ofInt (q))]) (r := []) (show jw_find jw_cvT 34 155 = some (1, [(16, 216)]) by decide +kernel) (by decide) rfl rfl rfl) jm_216 ⟨Nat.le_of_ble_eq_true rfl, by decide⟩ (jn_wrong hl (by rw [show (su (su σ 32 (0) (0)) 28 (0) (q)) 29 0 = σ 29 0 from ((su_nf (by decide)).trans (su_nf (by decide)))]; exact he)) ?_
      refine jr_1 jm_225 (show jw_cd cd_225 32 = some (.iconst 0) by decide +kernel) rfl ?_
      exact jr_v jm_225 (show jw_cd cd_225 33 = some (.ireturn) by decide +kernel) rfl
    · exact mWrong_0 ((su_nf (by decide)).trans ((su_nf (by decide)).trans he0))
    · exact mEq_wrong (mEq_su (mEq_su (mEq_refl _ _) (by decide)) (by decide)) (by decide)
  · have h2 : r.length = 7 := h1.resolve_left h0r
    have hP : 48 ≤ tH T n q ∧ tH T n q ≤ 57 := by
      refine Decidable.byContradiction fun z => h0r ?_
      rw [hr, spn_f (fun q => z (of_decide_eq_true q))]
      rfl
    rw [if_neg h0r]
    refine ⟨mWrong (su (su σ 32 0 (dg ([] ++ r.take 6))) 28 0 (q + ((6 : Nat) : Int))) (q + ((6 : Nat) : Int)), ?_, ?_, ?_⟩
    · skip
      refine jr_1 jm_225 (show jw_cd cd_225 14 = some (.aload_n 0) by decide +kernel) rfl ?_
      refine jr_c jm_225 (show jw_cd cd_225 15 = some (.invokevirtual 151) by decide +kernel) (mc_v hl (n := 0) (m2 := 215) (bs := []) (r := []) (show jw_find jw_cvT 34 151 = some (0, [(16, 215)]) by decide +kernel) (by decide) rfl rfl rfl) jm_215 ⟨Nat.le_of_ble_eq_true rfl, by decide⟩ (jn_hereP hl ht (T := T) (n := n) (p := q) (((su_row (by decide)).trans (su_row (by decide))).trans e1) (((su_nf (by decide)).trans (su_nf (by decide))).trans e2) ((su_eq _ _ _ _).trans rfl) (by omega) (by omega)) ?_
      refine jr_c jm_225 (show jw_cd cd_225 18 = some (.invokestatic 176) by decide +kernel) (mc_s (n := 1) (m2 := 224) (bs := [.int (Int32.ofInt (tH T n (q)))]) (r := []) (by decide) (show jw_find jw_csT 34 176 = some (224, 1) by decide +kernel) rfl rfl rfl) jm_224 ⟨Nat.le_of_ble_eq_true rfl, by decide⟩ (jn_isD_t hl hP) ?_
      refine jr_1 jm_225 (show jw_cd cd_225 21 = some (.ifCond .ne 13) by decide +kernel) (mz_t (q := .ne) (a := 1) (t := 34) (by show ¬ (1 = 0); omega) ⟨by omega, by omega⟩ (by decide) (by decide)) ?_
      exact (jn_rn_loop hl T n ht e1 e2 he m 6 [] q rfl h0 hq r hr (ml_mk h σ, .inl none) (d := d + 1)).2 h2
    · exact mWrong_0 ((su_nf (by decide)).trans ((su_nf (by decide)).trans he0))
    · exact mEq_wrong (mEq_su (mEq_su (mEq_refl _ _) (by decide)) (by decide)) (by decide)
theorem jn_readNumber_ok {β : Bool} {d : Nat} {h : jx_H} {σ : mS} (hl : 49 ≤ h.length) {T : Int → Int} {n p : Int} (ht : tOK T n) (e1 : σ 1 = T) (e2 : σ 2 0 = n) (e28 : σ 28 0 = p) (h0 : 0 ≤ p) (hp : p ≤ n) (he : mr (σ 29 0)) {x q : Int} (hs : sNum T n p = .inr (x, q)) : jx_r (jz β) jw_M (d + 1 + 1) 225 (0, [some (.ref 15), none, none], [], ml_mk h σ) (ml_mk h (su (su σ 32 0 x) 28 0 q), .inl (some (.int (Int32.ofInt (1))))) := by
  have hh := tH_r (p := p) ht h0
  unfold sNum at hs
  by_cases hm : tH T n p = 45
  · simp only [if_pos hm] at hs
    split at hs
    · cases hs
    · rename_i h1
      split at hs
      · cases hs
      · rename_i h2
        obtain ⟨r, hr⟩ : ∃ r, r = spn pD T n 7 (p + 1) := ⟨_, rfl⟩
        rw [← hr] at hs h1 h2
        cases hs
        refine jr_1 jm_225 (show jw_cd cd_225 0 = some (.aload_n 0) by decide +kernel) rfl ?_
        refine jr_1 jm_225 (show jw_cd cd_225 1 = some (.bipush 45) by decide +kernel) (mt_bi (by decide)) ?_
        refine jr_c jm_225 (show jw_cd cd_225 3 = some (.invokevirtual 170) by decide +kernel) (mc_v hl (n := 1) (m2 := 226) (bs := [.int (Int32.ofInt (45))]) (r := []) (show jw_find jw_cvT 34 170 = some (1, [(16, 226)]) by decide +kernel) (by decide) rfl rfl rfl) jm_226 ⟨Nat.le_of_ble_eq_true rfl, by decide⟩ (jn_takes_t hl (mT_mk ht e1 e2 e28 h0 hp) ⟨by omega, by omega⟩ ((mHere_mk e1 e2 e28).trans hm)) ?_
        refine jr_1 jm_225 (F2 := (7, [some (.ref 15), some (.int (Int32.ofInt (1))), none], [], ml_mk h (mTake σ))) (show jw_cd cd_225 6 = some (.istore_n 1) by decide +kernel) rfl ?_
        refine jr_1 jm_225 (show jw_cd cd_225 7 = some (.iconst 0) by decide +kernel) rfl ?_
        refine jr_1 jm_225 (F2 := (9, [some (.ref 15), some (.int (Int32.ofInt (1))), some (.int (Int32.ofInt (0)))], [], ml_mk h (mTake σ))) (show jw_cd cd_225 8 = some (.istore_n 2) by decide +kernel) rfl ?_
        refine jr_1 jm_225 (show jw_cd cd_225 9 = some (.aload_n 0) by decide +kernel) rfl ?_
        refine jr_1 jm_225 (show jw_cd cd_225 10 = some (.iconst 0) by decide +kernel) rfl ?_
        refine jr_1 jm_225 (show jw_cd cd_225 11 = some (.putfield 173) by decide +kernel) (mp_i hl (x := 0) (show jw_fld 34 173 16 = some 32 by decide +kernel) (by decide) (by decide) (show jw_ft 16 32 = some .int by decide +kernel) (show jw_fm 34 16 32 = some false by decide +kernel)) ?_
        rw [show (su (mTake σ) 32 (0) (0)) = (su (su σ 32 (0) (0)) 28 (0) (p + 1)) from by unfold mTake; rw [e28, su_c (by decide)]]
        refine jn_rn_14 hl (T := T) (n := n) (q := p + 1) ht e1 e2 (by omega) (by omega) he hr h1 h2 (d := d) ?_
        conv => arg 6; rw [show su (su σ 32 0 (-dg r)) 28 0 (p + 1 + (r.length : Int)) = (su (su (su σ 32 (0) (dg r)) 28 (0) (p + 1 + (r.length : Int))) 32 (0) (-(dg r))) from by rw [su_c (σ := su σ 32 (0) (dg r)) (by decide), su_2]]
        refine jr_1 jm_225 (show jw_cd cd_225 95 = some (.aload_n 0) by decide +kernel) rfl ?_
        refine jr_1 jm_225 (show jw_cd cd_225 96 = some (.iload_n 1) by decide +kernel) rfl ?_
        refine jr_1 jm_225 (show jw_cd cd_225 97 = some (.ifCond .eq 11) by decide +kernel) (mz_f (q := .eq) (a := 1) (by show ¬ (1 = 0); omega) ⟨by omega, by omega⟩ (by decide)) ?_
        refine jr_1 jm_225 (show jw_cd cd_225 100 = some (.aload_n 0) by decide +kernel) rfl ?_
        refine jr_1 jm_225 (show jw_cd cd_225 101 = some (.getfield 173) by decide +kernel) (mg_i hl (e := dg r) ((su_nf (by decide)).trans (su_eq _ _ _ _)) (show jw_fld 34 173 16 = some 32 by decide +kernel) (by decide) (by decide)) ?_
        refine jr_1 jm_225 (show jw_cd cd_225 104 = some (.ineg) by decide +kernel) (mt_neg (c := -(dg r)) rfl) ?_
        refine jr_1 jm_225 (show jw_cd cd_225 105 = some (.goto 7) by decide +kernel) (ju_go (t := 112) (by decide)) ?_
        refine jr_1 jm_225 (show jw_cd cd_225 112 = some (.putfield 173) by decide +kernel) (mp_i hl (x := -(dg r)) (show jw_fld 34 173 16 = some 32 by decide +kernel) (by decide) (by decide) (show jw_ft 16 32 = some .int by decide +kernel) (show jw_fm 34 16 32 = some false by decide +kernel)) ?_
        refine jr_1 jm_225 (show jw_cd cd_225 115 = some (.iconst 1) by decide +kernel) rfl ?_
        exact jr_v jm_225 (show jw_cd cd_225 116 = some (.ireturn) by decide +kernel) rfl
  · simp only [if_neg hm] at hs
    split at hs
    · cases hs
    · rename_i h1
      split at hs
      · cases hs
      · rename_i h2
        obtain ⟨r, hr⟩ : ∃ r, r = spn pD T n 7 p := ⟨_, rfl⟩
        rw [← hr] at hs h1 h2
        cases hs
        refine jr_1 jm_225 (show jw_cd cd_225 0 = some (.aload_n 0) by decide +kernel) rfl ?_
        refine jr_1 jm_225 (show jw_cd cd_225 1 = some (.bipush 45) by decide +kernel) (mt_bi (by decide)) ?_
        refine jr_c jm_225 (show jw_cd cd_225 3 = some (.invokevirtual 170) by decide +kernel) (mc_v hl (n := 1) (m2 := 226) (bs := [.int (Int32.ofInt (45))]) (r := []) (show jw_find jw_cvT 34 170 = some (1, [(16, 226)]) by decide +kernel) (by decide) rfl rfl rfl) jm_226 ⟨Nat.le_of_ble_eq_true rfl, by decide⟩ (jn_takes_f hl (mT_mk ht e1 e2 e28 h0 hp) ⟨by omega, by omega⟩ (fun z => hm ((mHere_mk e1 e2 e28).symm.trans z))) ?_
        refine jr_1 jm_225 (F2 := (7, [some (.ref 15), some (.int (Int32.ofInt (0))), none], [], ml_mk h σ)) (show jw_cd cd_225 6 = some (.istore_n 1) by decide +kernel) rfl ?_
        refine jr_1 jm_225 (show jw_cd cd_225 7 = some (.iconst 0) by decide +kernel) rfl ?_
        refine jr_1 jm_225 (F2 := (9, [some (.ref 15), some (.int (Int32.ofInt (0))), some (.int (Int32.ofInt (0)))], [], ml_mk h σ)) (show jw_cd cd_225 8 = some (.istore_n 2) by decide +kernel) rfl ?_
        refine jr_1 jm_225 (show jw_cd cd_225 9 = some (.aload_n 0) by decide +kernel) rfl ?_
        refine jr_1 jm_225 (show jw_cd cd_225 10 = some (.iconst 0) by decide +kernel) rfl ?_
        refine jr_1 jm_225 (show jw_cd cd_225 11 = some (.putfield 173) by decide +kernel) (mp_i hl (x := 0) (show jw_fld 34 173 16 = some 32 by decide +kernel) (by decide) (by decide) (show jw_ft 16 32 = some .int by decide +kernel) (show jw_fm 34 16 32 = some false by decide +kernel)) ?_
        rw [show (su σ 32 (0) (0)) = (su (su σ 32 (0) (0)) 28 (0) (p)) from by rw [su_c (by decide), ← e28, su_id]]
        refine jn_rn_14 hl (T := T) (n := n) (q := p) ht e1 e2 (by omega) (by omega) he hr h1 h2 (d := d) ?_
        conv => arg 6; rw [show su (su σ 32 0 (dg r)) 28 0 (p + (r.length : Int)) = (su (su (su σ 32 (0) (dg r)) 28 (0) (p + (r.length : Int))) 32 (0) (dg r)) from by rw [su_c (σ := su σ 32 (0) (dg r)) (by decide), su_2]]
        refine jr_1 jm_225 (show jw_cd cd_225 95 = some (.aload_n 0) by decide +kernel) rfl ?_
        refine jr_1 jm_225 (show jw_cd cd_225 96 = some (.iload_n 1) by decide +kernel) rfl ?_
        refine jr_1 jm_225 (show jw_cd cd_225 97 = some (.ifCond .eq 11) by decide +kernel) (mz_t (q := .eq) (a := 0) (t := 108) (by show 0 = 0; omega) ⟨by omega, by omega⟩ (by decide) (by decide)) ?_
        refine jr_1 jm_225 (show jw_cd cd_225 108 = some (.aload_n 0) by decide +kernel) rfl ?_
        refine jr_1 jm_225 (show jw_cd cd_225 109 = some (.getfield 173) by decide +kernel) (mg_i hl (e := dg r) ((su_nf (by decide)).trans (su_eq _ _ _ _)) (show jw_fld 34 173 16 = some 32 by decide +kernel) (by decide) (by decide)) ?_
        refine jr_1 jm_225 (show jw_cd cd_225 112 = some (.putfield 173) by decide +kernel) (mp_i hl (x := dg r) (show jw_fld 34 173 16 = some 32 by decide +kernel) (by decide) (by decide) (show jw_ft 16 32 = some .int by decide +kernel) (show jw_fm 34 16 32 = some false by decide +kernel)) ?_
        refine jr_1 jm_225 (show jw_cd cd_225 115 = some (.iconst 1) by decide +kernel) rfl ?_
        exact jr_v jm_225 (show jw_cd cd_225 116 = some (.ireturn) by decide +kernel) rfl
theorem jn_readNumber_er {β : Bool} {d : Nat} {h : jx_H} {σ : mS} (hl : 49 ≤ h.length) {T : Int → Int} {n p : Int} (ht : tOK T n) (e1 : σ 1 = T) (e2 : σ 2 0 = n) (e28 : σ 28 0 = p) (h0 : 0 ≤ p) (hp : p ≤ n) (he : mr (σ 29 0)) (he0 : σ 29 0 = 0) {w : Int} (hs : sNum T n p = .inl w) : ∃ τ : mS, jx_r (jz β) jw_M (d + 1 + 1) 225 (0, [some (.ref 15), none, none], [], ml_mk h σ) (ml_mk h (τ), .inl (some (.int (Int32.ofInt (0))))) ∧ τ 29 0 = -1 - w ∧ mEq [28, 29, 32] σ τ := by
  have hh := tH_r (p := p) ht h0
  unfold sNum at hs
  by_cases hm : tH T n p = 45
  · simp only [if_pos hm] at hs
    obtain ⟨r, hr⟩ : ∃ r, r = spn pD T n 7 (p + 1) := ⟨_, rfl⟩
    rw [← hr] at hs
    obtain ⟨hor, hw⟩ : (r.length = 0 ∨ r.length = 7) ∧ (if r.length = 0 then p + 1 else p + 1 + 6) = w := by
      split at hs
      · rename_i h1
        cases hs
        exact ⟨Or.inl h1, if_pos h1⟩
      · rename_i h1
        split at hs
        · rename_i h2
          cases hs
          exact ⟨Or.inr h2, if_neg h1⟩
        · cases hs
    obtain ⟨τ, t1, t2, t3⟩ := jn_rn_14e (β := β) hl (T := T) (n := n) (q := p + 1) (m := 1) ht e1 e2 (by omega) (by omega) he hr he0 hor (d := d)
    refine ⟨τ, ?_, ?_, t3⟩
    · skip
      refine jr_1 jm_225 (show jw_cd cd_225 0 = some (.aload_n 0) by decide +kernel) rfl ?_
      refine jr_1 jm_225 (show jw_cd cd_225 1 = some (.bipush 45) by decide +kernel) (mt_bi (by decide)) ?_
      refine jr_c jm_225 (show jw_cd cd_225 3 = some (.invokevirtual 170) by decide +kernel) (mc_v hl (n := 1) (m2 := 226) (bs := [.int (Int32.ofInt (45))]) (r := []) (show jw_find jw_cvT 34 170 = some (1, [(16, 226)]) by decide +kernel) (by decide) rfl rfl rfl) jm_226 ⟨Nat.le_of_ble_eq_true rfl, by decide⟩ (jn_takes_t hl (mT_mk ht e1 e2 e28 h0 hp) ⟨by omega, by omega⟩ ((mHere_mk e1 e2 e28).trans hm)) ?_
      refine jr_1 jm_225 (F2 := (7, [some (.ref 15), some (.int (Int32.ofInt (1))), none], [], ml_mk h (mTake σ))) (show jw_cd cd_225 6 = some (.istore_n 1) by decide +kernel) rfl ?_
      refine jr_1 jm_225 (show jw_cd cd_225 7 = some (.iconst 0) by decide +kernel) rfl ?_
      refine jr_1 jm_225 (F2 := (9, [some (.ref 15), some (.int (Int32.ofInt (1))), some (.int (Int32.ofInt (0)))], [], ml_mk h (mTake σ))) (show jw_cd cd_225 8 = some (.istore_n 2) by decide +kernel) rfl ?_
      refine jr_1 jm_225 (show jw_cd cd_225 9 = some (.aload_n 0) by decide +kernel) rfl ?_
      refine jr_1 jm_225 (show jw_cd cd_225 10 = some (.iconst 0) by decide +kernel) rfl ?_
      refine jr_1 jm_225 (show jw_cd cd_225 11 = some (.putfield 173) by decide +kernel) (mp_i hl (x := 0) (show jw_fld 34 173 16 = some 32 by decide +kernel) (by decide) (by decide) (show jw_ft 16 32 = some .int by decide +kernel) (show jw_fm 34 16 32 = some false by decide +kernel)) ?_
      rw [show (su (mTake σ) 32 (0) (0)) = (su (su σ 32 (0) (0)) 28 (0) (p + 1)) from by unfold mTake; rw [e28, su_c (by decide)]]
      exact t1
    · rw [t2, hw]
  · simp only [if_neg hm] at hs
    obtain ⟨r, hr⟩ : ∃ r, r = spn pD T n 7 p := ⟨_, rfl⟩
    rw [← hr] at hs
    obtain ⟨hor, hw⟩ : (r.length = 0 ∨ r.length = 7) ∧ (if r.length = 0 then p else p + 6) = w := by
      split at hs
      · rename_i h1
        cases hs
        exact ⟨Or.inl h1, if_pos h1⟩
      · rename_i h1
        split at hs
        · rename_i h2
          cases hs
          exact ⟨Or.inr h2, if_neg h1⟩
        · cases hs
    obtain ⟨τ, t1, t2, t3⟩ := jn_rn_14e (β := β) hl (T := T) (n := n) (q := p) (m := 0) ht e1 e2 (by omega) (by omega) he hr he0 hor (d := d)
    refine ⟨τ, ?_, ?_, t3⟩
    · skip
      refine jr_1 jm_225 (show jw_cd cd_225 0 = some (.aload_n 0) by decide +kernel) rfl ?_
      refine jr_1 jm_225 (show jw_cd cd_225 1 = some (.bipush 45) by decide +kernel) (mt_bi (by decide)) ?_
      refine jr_c jm_225 (show jw_cd cd_225 3 = some (.invokevirtual 170) by decide +kernel) (mc_v hl (n := 1) (m2 := 226) (bs := [.int (Int32.ofInt (45))]) (r := []) (show jw_find jw_cvT 34 170 = some (1, [(16, 226)]) by decide +kernel) (by decide) rfl rfl rfl) jm_226 ⟨Nat.le_of_ble_eq_true rfl, by decide⟩ (jn_takes_f hl (mT_mk ht e1 e2 e28 h0 hp) ⟨by omega, by omega⟩ (fun z => hm ((mHere_mk e1 e2 e28).symm.trans z))) ?_
      refine jr_1 jm_225 (F2 := (7, [some (.ref 15), some (.int (Int32.ofInt (0))), none], [], ml_mk h σ)) (show jw_cd cd_225 6 = some (.istore_n 1) by decide +kernel) rfl ?_
      refine jr_1 jm_225 (show jw_cd cd_225 7 = some (.iconst 0) by decide +kernel) rfl ?_
      refine jr_1 jm_225 (F2 := (9, [some (.ref 15), some (.int (Int32.ofInt (0))), some (.int (Int32.ofInt (0)))], [], ml_mk h σ)) (show jw_cd cd_225 8 = some (.istore_n 2) by decide +kernel) rfl ?_
      refine jr_1 jm_225 (show jw_cd cd_225 9 = some (.aload_n 0) by decide +kernel) rfl ?_
      refine jr_1 jm_225 (show jw_cd cd_225 10 = some (.iconst 0) by decide +kernel) rfl ?_
      refine jr_1 jm_225 (show jw_cd cd_225 11 = some (.putfield 173) by decide +kernel) (mp_i hl (x := 0) (show jw_fld 34 173 16 = some 32 by decide +kernel) (by decide) (by decide) (show jw_ft 16 32 = some .int by decide +kernel) (show jw_fm 34 16 32 = some false by decide +kernel)) ?_
      rw [show (su σ 32 (0) (0)) = (su (su σ 32 (0) (0)) 28 (0) (p)) from by rw [su_c (by decide), ← e28, su_id]]
      exact t1
    · rw [t2, hw]
def pN (c : Int) : Bool := decide (c = 45 ∨ 48 ≤ c ∧ c ≤ 57)
theorem jn_nb {β : Bool} {d : Nat} {h : jx_H} {σ : mS} (hl : 49 ≤ h.length) {T : Int → Int} {n p : Int} (ht : tOK T n) (e1 : σ 1 = T) (e2 : σ 2 0 = n) (e28 : σ 28 0 = p) (h0 : 0 ≤ p) (hp : p ≤ n) : jx_r (jz β) jw_M (d + 1) 223 (0, [some (.ref 15)], [], ml_mk h σ) (ml_mk h (σ), .inl (some (.int (Int32.ofInt (if pN (tH T n p) = true then 1 else 0))))) := by
  have hh := tH_r (p := p) ht h0
  refine jr_1 jm_223 (show jw_cd cd_223 0 = some (.aload_n 0) by decide +kernel) rfl ?_
  refine jr_c jm_223 (show jw_cd cd_223 1 = some (.invokevirtual 151) by decide +kernel) (mc_v hl (n := 0) (m2 := 215) (bs := []) (r := []) (show jw_find jw_cvT 34 151 = some (0, [(16, 215)]) by decide +kernel) (by decide) rfl rfl rfl) jm_215 ⟨Nat.le_of_ble_eq_true rfl, by decide⟩ (jn_hereP hl ht (T := T) (n := n) (p := p) (rfl.trans e1) (rfl.trans e2) (rfl.trans e28) (by omega) (by omega)) ?_
  refine jr_1 jm_223 (show jw_cd cd_223 4 = some (.bipush 45) by decide +kernel) (mt_bi (by decide)) ?_
  by_cases hm : tH T n p = 45
  · rw [if_pos (show pN (tH T n p) = true from decide_eq_true (Or.inl hm))]
    refine jr_1 jm_223 (show jw_cd cd_223 6 = some (.if_icmp .eq 13) by decide +kernel) (mb_t (q := .eq) (a := tH T n (p)) (b := 45) (t := 19) hm ⟨by omega, by omega⟩ ⟨by omega, by omega⟩ (by decide) (by decide)) ?_
    refine jr_1 jm_223 (show jw_cd cd_223 19 = some (.iconst 1) by decide +kernel) rfl ?_
    refine jr_1 jm_223 (show jw_cd cd_223 20 = some (.goto 4) by decide +kernel) (ju_go (t := 24) (by decide)) ?_
    exact jr_v jm_223 (show jw_cd cd_223 24 = some (.ireturn) by decide +kernel) rfl
  by_cases hP : 48 ≤ tH T n p ∧ tH T n p ≤ 57
  · rw [if_pos (show pN (tH T n p) = true from decide_eq_true (Or.inr hP))]
    refine jr_1 jm_223 (show jw_cd cd_223 6 = some (.if_icmp .eq 13) by decide +kernel) (mb_f (q := .eq) (a := tH T n (p)) (b := 45) hm ⟨by omega, by omega⟩ ⟨by omega, by omega⟩ (by decide)) ?_
    refine jr_1 jm_223 (show jw_cd cd_223 9 = some (.aload_n 0) by decide +kernel) rfl ?_
    refine jr_c jm_223 (show jw_cd cd_223 10 = some (.invokevirtual 151) by decide +kernel) (mc_v hl (n := 0) (m2 := 215) (bs := []) (r := []) (show jw_find jw_cvT 34 151 = some (0, [(16, 215)]) by decide +kernel) (by decide) rfl rfl rfl) jm_215 ⟨Nat.le_of_ble_eq_true rfl, by decide⟩ (jn_hereP hl ht (T := T) (n := n) (p := p) (rfl.trans e1) (rfl.trans e2) (rfl.trans e28) (by omega) (by omega)) ?_
    refine jr_c jm_223 (show jw_cd cd_223 13 = some (.invokestatic 176) by decide +kernel) (mc_s (n := 1) (m2 := 224) (bs := [.int (Int32.ofInt (tH T n (p)))]) (r := []) (by decide) (show jw_find jw_csT 34 176 = some (224, 1) by decide +kernel) rfl rfl rfl) jm_224 ⟨Nat.le_of_ble_eq_true rfl, by decide⟩ (jn_isD_t hl hP) ?_
    refine jr_1 jm_223 (show jw_cd cd_223 16 = some (.ifCond .eq 7) by decide +kernel) (mz_f (q := .eq) (a := 1) (by show ¬ (1 = 0); omega) ⟨by omega, by omega⟩ (by decide)) ?_
    refine jr_1 jm_223 (show jw_cd cd_223 19 = some (.iconst 1) by decide +kernel) rfl ?_
    refine jr_1 jm_223 (show jw_cd cd_223 20 = some (.goto 4) by decide +kernel) (ju_go (t := 24) (by decide)) ?_
    exact jr_v jm_223 (show jw_cd cd_223 24 = some (.ireturn) by decide +kernel) rfl
  · rw [if_neg (show ¬ pN (tH T n p) = true from fun z => (of_decide_eq_true z).elim hm hP)]
    refine jr_1 jm_223 (show jw_cd cd_223 6 = some (.if_icmp .eq 13) by decide +kernel) (mb_f (q := .eq) (a := tH T n (p)) (b := 45) hm ⟨by omega, by omega⟩ ⟨by omega, by omega⟩ (by decide)) ?_
    refine jr_1 jm_223 (show jw_cd cd_223 9 = some (.aload_n 0) by decide +kernel) rfl ?_
    refine jr_c jm_223 (show jw_cd cd_223 10 = some (.invokevirtual 151) by decide +kernel) (mc_v hl (n := 0) (m2 := 215) (bs := []) (r := []) (show jw_find jw_cvT 34 151 = some (0, [(16, 215)]) by decide +kernel) (by decide) rfl rfl rfl) jm_215 ⟨Nat.le_of_ble_eq_true rfl, by decide⟩ (jn_hereP hl ht (T := T) (n := n) (p := p) (rfl.trans e1) (rfl.trans e2) (rfl.trans e28) (by omega) (by omega)) ?_
    refine jr_c jm_223 (show jw_cd cd_223 13 = some (.invokestatic 176) by decide +kernel) (mc_s (n := 1) (m2 := 224) (bs := [.int (Int32.ofInt (tH T n (p)))]) (r := []) (by decide) (show jw_find jw_csT 34 176 = some (224, 1) by decide +kernel) rfl rfl rfl) jm_224 ⟨Nat.le_of_ble_eq_true rfl, by decide⟩ (jn_isD_f hl ⟨by omega, by omega⟩ hP) ?_
    refine jr_1 jm_223 (show jw_cd cd_223 16 = some (.ifCond .eq 7) by decide +kernel) (mz_t (q := .eq) (a := 0) (t := 23) (by show 0 = 0; omega) ⟨by omega, by omega⟩ (by decide) (by decide)) ?_
    refine jr_1 jm_223 (show jw_cd cd_223 23 = some (.iconst 0) by decide +kernel) rfl ?_
    exact jr_v jm_223 (show jw_cd cd_223 24 = some (.ireturn) by decide +kernel) rfl
