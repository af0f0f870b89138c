/-! ===== the model reads an index or a slice (printed by program: gen65.py) ===== -/
theorem mt_ior {T : jx_T} {cd : Nat → Option Instr} {own pc : Nat} {rt} {lo : jx_L} {st : List Value} {h : jx_H} {a b c : Int} (hc : Int32.ofInt a ||| Int32.ofInt b = Int32.ofInt c) : jx_do T cd own pc rt .ior lo (.int (Int32.ofInt b) :: .int (Int32.ofInt a) :: st) h = some (.inl (pc + 1, lo, .int (Int32.ofInt c) :: st, h)) := by
  simp only [jx_do, hc]
theorem mt_ishl {T : jx_T} {cd : Nat → Option Instr} {own pc : Nat} {rt} {lo : jx_L} {st : List Value} {h : jx_H} {a b c : Int} (hc : Int32.ofInt a <<< (Int32.ofInt b &&& 31) = Int32.ofInt c) : jx_do T cd own pc rt .ishl lo (.int (Int32.ofInt b) :: .int (Int32.ofInt a) :: st) h = some (.inl (pc + 1, lo, .int (Int32.ofInt c) :: st, h)) := by
  simp only [jx_do, hc]
theorem ior_0 {b : Int} (h : 0 ≤ b ∧ b < 1) : Int32.ofInt b ||| Int32.ofInt 1 = Int32.ofInt (b + 1) := by
  obtain rfl : b = 0 := by omega
  decide
theorem ior_1 {b : Int} (h : 0 ≤ b ∧ b < 2) : Int32.ofInt b ||| Int32.ofInt 2 = Int32.ofInt (b + 2) := by
  rcases (by omega : b = 0 ∨ b = 1) with rfl | rfl
  · decide
  · decide
theorem ior_2 {b : Int} (h : 0 ≤ b ∧ b < 4) : Int32.ofInt b ||| Int32.ofInt 4 = Int32.ofInt (b + 4) := by
  rcases (by omega : b = 0 ∨ b = 1 ∨ b = 2 ∨ b = 3) with rfl | rfl | rfl | rfl
  · decide
  · decide
  · decide
  · decide
def nbF (σ τ : mS) (s : Int) : Prop := (∀ f, f ∉ [20, 21, 28, 29, 32] → τ f = σ f) ∧ (∀ v, ¬ v = s → τ 20 v = σ 20 v) ∧ (∀ v, v < 3 * s ∨ 3 * s + 3 ≤ v → τ 21 v = σ 21 v)
theorem nbF_refl (σ : mS) (s : Int) : nbF σ σ s := ⟨fun _ _ => rfl, fun _ _ => rfl, fun _ _ => rfl⟩
theorem nbF_trans {σ τ υ : mS} {s : Int} (h : nbF σ τ s) (h2 : nbF τ υ s) : nbF σ υ s := ⟨fun f hf => (h2.1 f hf).trans (h.1 f hf), fun v hv => (h2.2.1 v hv).trans (h.2.1 v hv), fun v hv => (h2.2.2 v hv).trans (h.2.2 v hv)⟩
theorem nbF_su {σ τ : mS} {s i x : Int} {f : Nat} (h : nbF σ τ s) (hf : (f = 28 ∨ f = 29 ∨ f = 32) ∨ (f = 20 ∧ i = s) ∨ (f = 21 ∧ 3 * s ≤ i ∧ i < 3 * s + 3)) : nbF σ (su τ f i x) s := by
  refine ⟨fun g hg => ?_, fun v hv => ?_, fun v hv => ?_⟩
  · simp only [List.mem_cons, List.mem_nil_iff, or_false, not_or] at hg
    rw [su_row (by omega)]
    exact h.1 g (by simp; omega)
  · by_cases e : f = 20
    · rw [su_ni (by omega)]
      exact h.2.1 v hv
    · rw [su_nf (fun z => e z.symm)]
      exact h.2.1 v hv
  · by_cases e : f = 21
    · rw [su_ni (by omega)]
      exact h.2.2 v hv
    · rw [su_nf (fun z => e z.symm)]
      exact h.2.2 v hv
theorem nbF_q {σ τ : mS} {s : Int} {L : List Nat} (hL : ∀ g ∈ L, g = 28 ∨ g = 29 ∨ g = 32) (h : mEq L σ τ) : nbF σ τ s := ⟨fun f hf => h f (fun hh => by
    have := hL f hh
    simp only [List.mem_cons, List.mem_nil_iff, or_false, not_or] at hf
    omega), fun v _ => by rw [h 20 (fun hh => by have := hL 20 hh; omega)], fun v _ => by rw [h 21 (fun hh => by have := hL 21 hh; omega)]⟩
theorem rdF_nb {σ τ : mS} {Q i0 s : Int} (h : nbF σ τ s) : rdF σ τ Q i0 s := by
  refine ⟨fun f hf => h.1 f ?_, fun v _ _ => by rw [h.1 16 (by decide)], fun f v f1 f2 _ => by rw [h.1 f (by simp; omega)], fun f v f1 f2 hv => ?_⟩
  · simp only [List.mem_cons, List.mem_nil_iff, or_false, not_or] at hf ⊢
    omega
  · by_cases h0 : f = 20
    · subst h0
      have : mulf 20 = 1 := rfl
      rw [this] at hv
      exact h.2.1 v (by omega)
    · by_cases h1 : f = 21
      · subst h1
        have : mulf 21 = 3 := rfl
        rw [this] at hv
        exact h.2.2 v (by omega)
      · rw [h.1 f (by simp; omega)]
theorem jn_nb_0 {β : Bool} {d : Nat} {h : jx_H} {σ : mS} (hl : 49 ≤ h.length) {T : Int → Int} {n p : Int} (ht : tOK T n) (hP : rP σ T n p) (h0 : 0 ≤ p) (hp : p ≤ n) {s b : Int} {c4 c5 : Option Value} (hs9 : 0 ≤ s ∧ s < 144) (e20 : σ 20 s = b) (hb : 0 ≤ b ∧ b < 1) : (∀ e, sOpt T n p false = .inl e → ∃ (τ : mS) (c : Option Value), (∀ res, jx_r (jz β) jw_M (d + 3) 243 (87, [some (.ref 15), some (.int (Int32.ofInt (s))), some (.int (Int32.ofInt (0))), some (.int (Int32.ofInt (1))), some (.int (Int32.ofInt (p))), c], [], ml_mk h τ) res → jx_r (jz β) jw_M (d + 3) 243 (15, [some (.ref 15), some (.int (Int32.ofInt (s))), some (.int (Int32.ofInt (0))), some (.int (Int32.ofInt (1))), c4, c5], [], ml_mk h σ) res) ∧ τ 29 0 = -1 - e ∧ nbF σ τ s ∧ 1 ≤ τ 20 s ∧ τ 20 s ≤ 7) ∧ (∀ a q, sOpt T n p false = .inr (a, q) → ∃ (τ : mS) (c : Option Value), (∀ res, jx_r (jz β) jw_M (d + 3) 243 (87, [some (.ref 15), some (.int (Int32.ofInt (s))), some (.int (Int32.ofInt (0))), some (.int (Int32.ofInt (1))), some (.int (Int32.ofInt (p))), c], [], ml_mk h τ) res → jx_r (jz β) jw_M (d + 3) 243 (15, [some (.ref 15), some (.int (Int32.ofInt (s))), some (.int (Int32.ofInt (0))), some (.int (Int32.ofInt (1))), c4, c5], [], ml_mk h σ) res) ∧ rP τ T n q ∧ τ 20 s = b + bit1 a 1 ∧ (∀ x, a = some x → τ 21 (3 * s + 0) = x) ∧ (∀ v, ¬ v = 3 * s + 0 → τ 21 v = σ 21 v) ∧ nbF σ τ s) := by
  obtain ⟨s0, s1⟩ := hs9
  have hn160 := ht.2.1
  have hh := tH_r (p := p) ht h0
  have r0 := jn_nb (β := β) (d := d + 1) (h := h) hl ht hP.1 hP.2.1 hP.2.2.1 h0 hp
  unfold sOpt
  by_cases h1 : pN (tH T n p) = true
  · rw [if_pos h1] at r0
    rw [if_pos h1]
    have hk := sNum_R ht h0 hp
    cases hs : sNum T n p with
    | inl e =>
      obtain ⟨τ1, r1, r2, r3⟩ := jn_readNumber_er (β := β) (d := d) (h := h) hl ht hP.1 hP.2.1 hP.2.2.1 h0 hp (by rw [hP.2.2.2]; exact mr0) hP.2.2.2 hs
      have e20b : τ1 20 s = b := by rw [r3 20 (by decide)]; exact e20
      refine ⟨fun e' he => ?_, fun a q he => (by cases he)⟩
      cases he
      refine ⟨(su (su τ1 21 (3 * s + 0) (τ1 32 0)) 20 (s) (b + 1)), some (.int (Int32.ofInt 0)), fun res kk => ?_, by rw [su_nf (by decide), su_nf (by decide)]; exact r2, nbF_su (nbF_su (nbF_q (by decide) r3) (by omega)) (by omega), by rw [su_eq]; omega, by rw [su_eq]; omega⟩
      refine jr_1 jm_243 (show jw_cd cd_243 15 = some (.aload_n 0) by decide +kernel) rfl ?_
      refine jr_1 jm_243 (show jw_cd cd_243 16 = some (.getfield 145) by decide +kernel) (mg_i hl (e := p) hP.2.2.1 (show jw_fld 34 145 16 = some 28 by decide +kernel) (by decide) (by decide)) ?_
      refine jr_1 jm_243 (F2 := (21, [some (.ref 15), some (.int (Int32.ofInt (s))), some (.int (Int32.ofInt (0))), some (.int (Int32.ofInt (1))), some (.int (Int32.ofInt (p))), c5], [], ml_mk h σ)) (show jw_cd cd_243 19 = some (.istore 4) by decide +kernel) rfl ?_
      refine jr_1 jm_243 (show jw_cd cd_243 21 = some (.aload_n 0) by decide +kernel) rfl ?_
      refine jr_c jm_243 (show jw_cd cd_243 22 = some (.invokevirtual 182) by decide +kernel) (mc_v hl (n := 0) (m2 := 223) (bs := []) (r := []) (show jw_find jw_cvT 34 182 = some (0, [(16, 223)]) by decide +kernel) (by decide) rfl rfl rfl) jm_223 ⟨Nat.le_of_ble_eq_true rfl, by decide⟩ r0 ?_
      refine jr_1 jm_243 (show jw_cd cd_243 25 = some (.ifCond .eq 62) by decide +kernel) (mz_f (q := .eq) (a := 1) (by show ¬ (1 = 0); omega) ⟨by omega, by omega⟩ (by decide)) ?_
      refine jr_1 jm_243 (show jw_cd cd_243 28 = some (.aload_n 0) by decide +kernel) rfl ?_
      refine jr_c jm_243 (show jw_cd cd_243 29 = some (.invokevirtual 186) by decide +kernel) (mc_v hl (n := 0) (m2 := 225) (bs := []) (r := []) (show jw_find jw_cvT 34 186 = some (0, [(16, 225)]) by decide +kernel) (by decide) rfl rfl rfl) jm_225 ⟨Nat.le_of_ble_eq_true rfl, by decide⟩ r1 ?_
      refine jr_1 jm_243 (F2 := (34, [some (.ref 15), some (.int (Int32.ofInt (s))), some (.int (Int32.ofInt (0))), some (.int (Int32.ofInt (1))), some (.int (Int32.ofInt (p))), some (.int (Int32.ofInt (0)))], [], ml_mk h τ1)) (show jw_cd cd_243 32 = some (.istore 5) by decide +kernel) rfl ?_
      refine jr_1 jm_243 (show jw_cd cd_243 34 = some (.aload_n 0) by decide +kernel) rfl ?_
      refine jr_1 jm_243 (show jw_cd cd_243 35 = some (.getfield 59) by decide +kernel) (mg_a hl (a := 32) (show jw_fld 34 59 16 = some 21 by decide +kernel) (by decide) (by decide)) ?_
      refine jr_1 jm_243 (show jw_cd cd_243 38 = some (.iconst 3) by decide +kernel) rfl ?_
      refine jr_1 jm_243 (show jw_cd cd_243 39 = some (.iload_n 1) by decide +kernel) rfl ?_
      refine jr_1 jm_243 (show jw_cd cd_243 40 = some (.imul) by decide +kernel) (mt_mul (c := 3 * s) rfl) ?_
      refine jr_1 jm_243 (show jw_cd cd_243 41 = some (.iload_n 2) by decide +kernel) rfl ?_
      refine jr_1 jm_243 (show jw_cd cd_243 42 = some (.iadd) by decide +kernel) (mt_add (c := 3 * s + 0) rfl) ?_
      refine jr_1 jm_243 (show jw_cd cd_243 43 = some (.aload_n 0) by decide +kernel) rfl ?_
      refine jr_1 jm_243 (show jw_cd cd_243 44 = some (.getfield 173) by decide +kernel) (mg_i hl (e := τ1 32 0) rfl (show jw_fld 34 173 16 = some 32 by decide +kernel) (by decide) (by decide)) ?_
      refine jr_1 jm_243 (show jw_cd cd_243 47 = some (.iastore) by decide +kernel) (ms_i hl (i := 3 * s + 0) (x := τ1 32 0) 21 (by omega) (by show _ < ((432 : Nat) : Int); omega) (by decide) (by decide) (by decide)) ?_
      refine jr_1 jm_243 (show jw_cd cd_243 48 = some (.aload_n 0) by decide +kernel) rfl ?_
      refine jr_1 jm_243 (show jw_cd cd_243 49 = some (.getfield 56) by decide +kernel) (mg_a hl (a := 31) (show jw_fld 34 56 16 = some 20 by decide +kernel) (by decide) (by decide)) ?_
      refine jr_1 jm_243 (show jw_cd cd_243 52 = some (.iload_n 1) by decide +kernel) rfl ?_
      refine jr_1 jm_243 (show jw_cd cd_243 53 = some (.aload_n 0) by decide +kernel) rfl ?_
      refine jr_1 jm_243 (show jw_cd cd_243 54 = some (.getfield 56) by decide +kernel) (mg_a hl (a := 31) (show jw_fld 34 56 16 = some 20 by decide +kernel) (by decide) (by decide)) ?_
      refine jr_1 jm_243 (show jw_cd cd_243 57 = some (.iload_n 1) by decide +kernel) rfl ?_
      refine jr_1 jm_243 (show jw_cd cd_243 58 = some (.iaload) by decide +kernel) (ma_i hl (i := s) (e := b) 20 (by omega) (by show _ < ((144 : Nat) : Int); omega) ((su_nf (by decide)).trans e20b) (by decide) (by decide) (by decide)) ?_
      refine jr_1 jm_243 (show jw_cd cd_243 59 = some (.iconst 1) by decide +kernel) rfl ?_
      refine jr_1 jm_243 (show jw_cd cd_243 60 = some (.iload_n 2) by decide +kernel) rfl ?_
      refine jr_1 jm_243 (show jw_cd cd_243 61 = some (.ishl) by decide +kernel) (mt_ishl (c := 1) (by decide)) ?_
      refine jr_1 jm_243 (show jw_cd cd_243 62 = some (.ior) by decide +kernel) (mt_ior (c := b + 1) (ior_0 hb)) ?_
      refine jr_1 jm_243 (show jw_cd cd_243 63 = some (.iastore) by decide +kernel) (ms_i hl (i := s) (x := b + 1) 20 (by omega) (by show _ < ((144 : Nat) : Int); omega) (by decide) (by decide) (by decide)) ?_
      refine jr_1 jm_243 (show jw_cd cd_243 64 = some (.iload 5) by decide +kernel) rfl ?_
      refine jr_1 jm_243 (show jw_cd cd_243 66 = some (.ifCond .eq 21) by decide +kernel) (mz_t (q := .eq) (a := 0) (t := 87) (by show 0 = 0; omega) ⟨by omega, by omega⟩ (by decide) (by decide)) ?_
      exact kk
    | inr x =>
      obtain ⟨x, q⟩ := x
      obtain ⟨k1, k2, k3⟩ := hk.2 x q hs
      dsimp only
      have hF : nbF σ (su (su (su (su σ 32 (0) (x)) 28 (0) (q)) 21 (3 * s + 0) (x)) 20 (s) (b + 1)) s := nbF_su (nbF_su (nbF_su (nbF_su (nbF_refl _ _) (by omega)) (by omega)) (by omega)) (by omega)
      have hPw : rP (su (su (su (su σ 32 (0) (x)) 28 (0) (q)) 21 (3 * s + 0) (x)) 20 (s) (b + 1)) T n q := rP_su (rP_su (rP_mv (rP_su hP (by decide) (by decide) (by decide))) (by decide) (by decide) (by decide)) (by decide) (by decide) (by decide)
      rw [if_neg (fun z => by cases z.1)]
      · skip
        refine ⟨fun e' he => (by cases he), fun a q he => ?_⟩
        cases he
        refine ⟨(su (su (su (su σ 32 (0) (x)) 28 (0) (q)) 21 (3 * s + 0) (x)) 20 (s) (b + 1)), some (.int (Int32.ofInt 1)), fun res kk => ?_, hPw, su_eq _ _ _ _, fun y hy => ?_, fun v hv => by rw [su_nf (by decide), su_ni hv, su_nf (by decide), su_nf (by decide)], hF⟩
        rotate_left
        · cases hy
          rw [su_nf (by decide), su_eq]
        refine jr_1 jm_243 (show jw_cd cd_243 15 = some (.aload_n 0) by decide +kernel) rfl ?_
        refine jr_1 jm_243 (show jw_cd cd_243 16 = some (.getfield 145) by decide +kernel) (mg_i hl (e := p) hP.2.2.1 (show jw_fld 34 145 16 = some 28 by decide +kernel) (by decide) (by decide)) ?_
        refine jr_1 jm_243 (F2 := (21, [some (.ref 15), some (.int (Int32.ofInt (s))), some (.int (Int32.ofInt (0))), some (.int (Int32.ofInt (1))), some (.int (Int32.ofInt (p))), c5], [], ml_mk h σ)) (show jw_cd cd_243 19 = some (.istore 4) by decide +kernel) rfl ?_
        refine jr_1 jm_243 (show jw_cd cd_243 21 = some (.aload_n 0) by decide +kernel) rfl ?_
        refine jr_c jm_243 (show jw_cd cd_243 22 = some (.invokevirtual 182) by decide +kernel) (mc_v hl (n := 0) (m2 := 223) (bs := []) (r := []) (show jw_find jw_cvT 34 182 = some (0, [(16, 223)]) by decide +kernel) (by decide) rfl rfl rfl) jm_223 ⟨Nat.le_of_ble_eq_true rfl, by decide⟩ r0 ?_
        refine jr_1 jm_243 (show jw_cd cd_243 25 = some (.ifCond .eq 62) by decide +kernel) (mz_f (q := .eq) (a := 1) (by show ¬ (1 = 0); omega) ⟨by omega, by omega⟩ (by decide)) ?_
        refine jr_1 jm_243 (show jw_cd cd_243 28 = some (.aload_n 0) by decide +kernel) rfl ?_
        refine jr_c jm_243 (show jw_cd cd_243 29 = some (.invokevirtual 186) by decide +kernel) (mc_v hl (n := 0) (m2 := 225) (bs := []) (r := []) (show jw_find jw_cvT 34 186 = some (0, [(16, 225)]) by decide +kernel) (by decide) rfl rfl rfl) jm_225 ⟨Nat.le_of_ble_eq_true rfl, by decide⟩ (jn_readNumber_ok hl ht hP.1 hP.2.1 hP.2.2.1 h0 hp (by rw [hP.2.2.2]; exact mr0) hs) ?_
        refine jr_1 jm_243 (F2 := (34, [some (.ref 15), some (.int (Int32.ofInt (s))), some (.int (Int32.ofInt (0))), some (.int (Int32.ofInt (1))), some (.int (Int32.ofInt (p))), some (.int (Int32.ofInt (1)))], [], ml_mk h (su (su σ 32 (0) (x)) 28 (0) (q)))) (show jw_cd cd_243 32 = some (.istore 5) by decide +kernel) rfl ?_
        refine jr_1 jm_243 (show jw_cd cd_243 34 = some (.aload_n 0) by decide +kernel) rfl ?_
        refine jr_1 jm_243 (show jw_cd cd_243 35 = some (.getfield 59) by decide +kernel) (mg_a hl (a := 32) (show jw_fld 34 59 16 = some 21 by decide +kernel) (by decide) (by decide)) ?_
        refine jr_1 jm_243 (show jw_cd cd_243 38 = some (.iconst 3) by decide +kernel) rfl ?_
        refine jr_1 jm_243 (show jw_cd cd_243 39 = some (.iload_n 1) by decide +kernel) rfl ?_
        refine jr_1 jm_243 (show jw_cd cd_243 40 = some (.imul) by decide +kernel) (mt_mul (c := 3 * s) rfl) ?_
        refine jr_1 jm_243 (show jw_cd cd_243 41 = some (.iload_n 2) by decide +kernel) rfl ?_
        refine jr_1 jm_243 (show jw_cd cd_243 42 = some (.iadd) by decide +kernel) (mt_add (c := 3 * s + 0) rfl) ?_
        refine jr_1 jm_243 (show jw_cd cd_243 43 = some (.aload_n 0) by decide +kernel) rfl ?_
        refine jr_1 jm_243 (show jw_cd cd_243 44 = some (.getfield 173) by decide +kernel) (mg_i hl (e := x) ((su_nf (by decide)).trans (su_eq _ _ _ _)) (show jw_fld 34 173 16 = some 32 by decide +kernel) (by decide) (by decide)) ?_
        refine jr_1 jm_243 (show jw_cd cd_243 47 = some (.iastore) by decide +kernel) (ms_i hl (i := 3 * s + 0) (x := x) 21 (by omega) (by show _ < ((432 : Nat) : Int); omega) (by decide) (by decide) (by decide)) ?_
        refine jr_1 jm_243 (show jw_cd cd_243 48 = some (.aload_n 0) by decide +kernel) rfl ?_
        refine jr_1 jm_243 (show jw_cd cd_243 49 = some (.getfield 56) by decide +kernel) (mg_a hl (a := 31) (show jw_fld 34 56 16 = some 20 by decide +kernel) (by decide) (by decide)) ?_
        refine jr_1 jm_243 (show jw_cd cd_243 52 = some (.iload_n 1) by decide +kernel) rfl ?_
        refine jr_1 jm_243 (show jw_cd cd_243 53 = some (.aload_n 0) by decide +kernel) rfl ?_
        refine jr_1 jm_243 (show jw_cd cd_243 54 = some (.getfield 56) by decide +kernel) (mg_a hl (a := 31) (show jw_fld 34 56 16 = some 20 by decide +kernel) (by decide) (by decide)) ?_
        refine jr_1 jm_243 (show jw_cd cd_243 57 = some (.iload_n 1) by decide +kernel) rfl ?_
        refine jr_1 jm_243 (show jw_cd cd_243 58 = some (.iaload) by decide +kernel) (ma_i hl (i := s) (e := b) 20 (by omega) (by show _ < ((144 : Nat) : Int); omega) ((su_nf (by decide)).trans ((su_nf (by decide)).trans ((su_nf (by decide)).trans e20))) (by decide) (by decide) (by decide)) ?_
        refine jr_1 jm_243 (show jw_cd cd_243 59 = some (.iconst 1) by decide +kernel) rfl ?_
        refine jr_1 jm_243 (show jw_cd cd_243 60 = some (.iload_n 2) by decide +kernel) rfl ?_
        refine jr_1 jm_243 (show jw_cd cd_243 61 = some (.ishl) by decide +kernel) (mt_ishl (c := 1) (by decide)) ?_
        refine jr_1 jm_243 (show jw_cd cd_243 62 = some (.ior) by decide +kernel) (mt_ior (c := b + 1) (ior_0 hb)) ?_
        refine jr_1 jm_243 (show jw_cd cd_243 63 = some (.iastore) by decide +kernel) (ms_i hl (i := s) (x := b + 1) 20 (by omega) (by show _ < ((144 : Nat) : Int); omega) (by decide) (by decide) (by decide)) ?_
        refine jr_1 jm_243 (show jw_cd cd_243 64 = some (.iload 5) by decide +kernel) rfl ?_
        refine jr_1 jm_243 (show jw_cd cd_243 66 = some (.ifCond .eq 21) by decide +kernel) (mz_f (q := .eq) (a := 1) (by show ¬ (1 = 0); omega) ⟨by omega, by omega⟩ (by decide)) ?_
        refine jr_1 jm_243 (show jw_cd cd_243 69 = some (.iload_n 2) by decide +kernel) rfl ?_
        refine jr_1 jm_243 (show jw_cd cd_243 70 = some (.iconst 2) by decide +kernel) rfl ?_
        refine jr_1 jm_243 (show jw_cd cd_243 71 = some (.if_icmp .ne 16) by decide +kernel) (mb_t (q := .ne) (a := 0) (b := 2) (t := 87) (by show ¬ (0 = 2); omega) ⟨by omega, by omega⟩ ⟨by omega, by omega⟩ (by decide) (by decide)) ?_
        exact kk
  · rw [if_neg h1] at r0
    rw [if_neg h1]
    refine ⟨fun e' he => (by cases he), fun a q he => ?_⟩
    cases he
    refine ⟨σ, c5, fun res kk => ?_, hP, by rw [e20]; show b = b + 0; omega, fun y hy => (by cases hy), fun _ _ => rfl, nbF_refl _ _⟩
    refine jr_1 jm_243 (show jw_cd cd_243 15 = some (.aload_n 0) by decide +kernel) rfl ?_
    refine jr_1 jm_243 (show jw_cd cd_243 16 = some (.getfield 145) by decide +kernel) (mg_i hl (e := p) hP.2.2.1 (show jw_fld 34 145 16 = some 28 by decide +kernel) (by decide) (by decide)) ?_
    refine jr_1 jm_243 (F2 := (21, [some (.ref 15), some (.int (Int32.ofInt (s))), some (.int (Int32.ofInt (0))), some (.int (Int32.ofInt (1))), some (.int (Int32.ofInt (p))), c5], [], ml_mk h σ)) (show jw_cd cd_243 19 = some (.istore 4) by decide +kernel) rfl ?_
    refine jr_1 jm_243 (show jw_cd cd_243 21 = some (.aload_n 0) by decide +kernel) rfl ?_
    refine jr_c jm_243 (show jw_cd cd_243 22 = some (.invokevirtual 182) by decide +kernel) (mc_v hl (n := 0) (m2 := 223) (bs := []) (r := []) (show jw_find jw_cvT 34 182 = some (0, [(16, 223)]) by decide +kernel) (by decide) rfl rfl rfl) jm_223 ⟨Nat.le_of_ble_eq_true rfl, by decide⟩ r0 ?_
    refine jr_1 jm_243 (show jw_cd cd_243 25 = some (.ifCond .eq 62) by decide +kernel) (mz_t (q := .eq) (a := 0) (t := 87) (by show 0 = 0; omega) ⟨by omega, by omega⟩ (by decide) (by decide)) ?_
    exact kk
theorem jn_nb_1 {β : Bool} {d : Nat} {h : jx_H} {σ : mS} (hl : 49 ≤ h.length) {T : Int → Int} {n p : Int} (ht : tOK T n) (hP : rP σ T n p) (h0 : 0 ≤ p) (hp : p ≤ n) {s b : Int} {c4 c5 : Option Value} (hs9 : 0 ≤ s ∧ s < 144) (e20 : σ 20 s = b) (hb : 0 ≤ b ∧ b < 2) : (∀ e, sOpt T n p false = .inl e → ∃ (τ : mS) (c : Option Value), (∀ res, jx_r (jz β) jw_M (d + 3) 243 (87, [some (.ref 15), some (.int (Int32.ofInt (s))), some (.int (Int32.ofInt (1))), some (.int (Int32.ofInt (1))), some (.int (Int32.ofInt (p))), c], [], ml_mk h τ) res → jx_r (jz β) jw_M (d + 3) 243 (15, [some (.ref 15), some (.int (Int32.ofInt (s))), some (.int (Int32.ofInt (1))), some (.int (Int32.ofInt (1))), c4, c5], [], ml_mk h σ) res) ∧ τ 29 0 = -1 - e ∧ nbF σ τ s ∧ 1 ≤ τ 20 s ∧ τ 20 s ≤ 7) ∧ (∀ a q, sOpt T n p false = .inr (a, q) → ∃ (τ : mS) (c : Option Value), (∀ res, jx_r (jz β) jw_M (d + 3) 243 (87, [some (.ref 15), some (.int (Int32.ofInt (s))), some (.int (Int32.ofInt (1))), some (.int (Int32.ofInt (1))), some (.int (Int32.ofInt (p))), c], [], ml_mk h τ) res → jx_r (jz β) jw_M (d + 3) 243 (15, [some (.ref 15), some (.int (Int32.ofInt (s))), some (.int (Int32.ofInt (1))), some (.int (Int32.ofInt (1))), c4, c5], [], ml_mk h σ) res) ∧ rP τ T n q ∧ τ 20 s = b + bit1 a 2 ∧ (∀ x, a = some x → τ 21 (3 * s + 1) = x) ∧ (∀ v, ¬ v = 3 * s + 1 → τ 21 v = σ 21 v) ∧ nbF σ τ s) := by
  obtain ⟨s0, s1⟩ := hs9
  have hn160 := ht.2.1
  have hh := tH_r (p := p) ht h0
  have r0 := jn_nb (β := β) (d := d + 1) (h := h) hl ht hP.1 hP.2.1 hP.2.2.1 h0 hp
  unfold sOpt
  by_cases h1 : pN (tH T n p) = true
  · rw [if_pos h1] at r0
    rw [if_pos h1]
    have hk := sNum_R ht h0 hp
    cases hs : sNum T n p with
    | inl e =>
      obtain ⟨τ1, r1, r2, r3⟩ := jn_readNumber_er (β := β) (d := d) (h := h) hl ht hP.1 hP.2.1 hP.2.2.1 h0 hp (by rw [hP.2.2.2]; exact mr0) hP.2.2.2 hs
      have e20b : τ1 20 s = b := by rw [r3 20 (by decide)]; exact e20
      refine ⟨fun e' he => ?_, fun a q he => (by cases he)⟩
      cases he
      refine ⟨(su (su τ1 21 (3 * s + 1) (τ1 32 0)) 20 (s) (b + 2)), some (.int (Int32.ofInt 0)), fun res kk => ?_, by rw [su_nf (by decide), su_nf (by decide)]; exact r2, nbF_su (nbF_su (nbF_q (by decide) r3) (by omega)) (by omega), by rw [su_eq]; omega, by rw [su_eq]; omega⟩
      refine jr_1 jm_243 (show jw_cd cd_243 15 = some (.aload_n 0) by decide +kernel) rfl ?_
      refine jr_1 jm_243 (show jw_cd cd_243 16 = some (.getfield 145) by decide +kernel) (mg_i hl (e := p) hP.2.2.1 (show jw_fld 34 145 16 = some 28 by decide +kernel) (by decide) (by decide)) ?_
      refine jr_1 jm_243 (F2 := (21, [some (.ref 15), some (.int (Int32.ofInt (s))), some (.int (Int32.ofInt (1))), some (.int (Int32.ofInt (1))), some (.int (Int32.ofInt (p))), c5], [], ml_mk h σ)) (show jw_cd cd_243 19 = some (.istore 4) by decide +kernel) rfl ?_
      refine jr_1 jm_243 (show jw_cd cd_243 21 = some (.aload_n 0) by decide +kernel) rfl ?_
      refine jr_c jm_243 (show jw_cd cd_243 22 = some (.invokevirtual 182) by decide +kernel) (mc_v hl (n := 0) (m2 := 223) (bs := []) (r := []) (show jw_find jw_cvT 34 182 = some (0, [(16, 223)]) by decide +kernel) (by decide) rfl rfl rfl) jm_223 ⟨Nat.le_of_ble_eq_true rfl, by decide⟩ r0 ?_
      refine jr_1 jm_243 (show jw_cd cd_243 25 = some (.ifCond .eq 62) by decide +kernel) (mz_f (q := .eq) (a := 1) (by show ¬ (1 = 0); omega) ⟨by omega, by omega⟩ (by decide)) ?_
      refine jr_1 jm_243 (show jw_cd cd_243 28 = some (.aload_n 0) by decide +kernel) rfl ?_
      refine jr_c jm_243 (show jw_cd cd_243 29 = some (.invokevirtual 186) by decide +kernel) (mc_v hl (n := 0) (m2 := 225) (bs := []) (r := []) (show jw_find jw_cvT 34 186 = some (0, [(16, 225)]) by decide +kernel) (by decide) rfl rfl rfl) jm_225 ⟨Nat.le_of_ble_eq_true rfl, by decide⟩ r1 ?_
      refine jr_1 jm_243 (F2 := (34, [some (.ref 15), some (.int (Int32.ofInt (s))), some (.int (Int32.ofInt (1))), some (.int (Int32.ofInt (1))), some (.int (Int32.ofInt (p))), some (.int (Int32.ofInt (0)))], [], ml_mk h τ1)) (show jw_cd cd_243 32 = some (.istore 5) by decide +kernel) rfl ?_
      refine jr_1 jm_243 (show jw_cd cd_243 34 = some (.aload_n 0) by decide +kernel) rfl ?_
      refine jr_1 jm_243 (show jw_cd cd_243 35 = some (.getfield 59) by decide +kernel) (mg_a hl (a := 32) (show jw_fld 34 59 16 = some 21 by decide +kernel) (by decide) (by decide)) ?_
      refine jr_1 jm_243 (show jw_cd cd_243 38 = some (.iconst 3) by decide +kernel) rfl ?_
      refine jr_1 jm_243 (show jw_cd cd_243 39 = some (.iload_n 1) by decide +kernel) rfl ?_
      refine jr_1 jm_243 (show jw_cd cd_243 40 = some (.imul) by decide +kernel) (mt_mul (c := 3 * s) rfl) ?_
      refine jr_1 jm_243 (show jw_cd cd_243 41 = some (.iload_n 2) by decide +kernel) rfl ?_
      refine jr_1 jm_243 (show jw_cd cd_243 42 = some (.iadd) by decide +kernel) (mt_add (c := 3 * s + 1) rfl) ?_
      refine jr_1 jm_243 (show jw_cd cd_243 43 = some (.aload_n 0) by decide +kernel) rfl ?_
      refine jr_1 jm_243 (show jw_cd cd_243 44 = some (.getfield 173) by decide +kernel) (mg_i hl (e := τ1 32 0) rfl (show jw_fld 34 173 16 = some 32 by decide +kernel) (by decide) (by decide)) ?_
      refine jr_1 jm_243 (show jw_cd cd_243 47 = some (.iastore) by decide +kernel) (ms_i hl (i := 3 * s + 1) (x := τ1 32 0) 21 (by omega) (by show _ < ((432 : Nat) : Int); omega) (by decide) (by decide) (by decide)) ?_
      refine jr_1 jm_243 (show jw_cd cd_243 48 = some (.aload_n 0) by decide +kernel) rfl ?_
      refine jr_1 jm_243 (show jw_cd cd_243 49 = some (.getfield 56) by decide +kernel) (mg_a hl (a := 31) (show jw_fld 34 56 16 = some 20 by decide +kernel) (by decide) (by decide)) ?_
      refine jr_1 jm_243 (show jw_cd cd_243 52 = some (.iload_n 1) by decide +kernel) rfl ?_
      refine jr_1 jm_243 (show jw_cd cd_243 53 = some (.aload_n 0) by decide +kernel) rfl ?_
      refine jr_1 jm_243 (show jw_cd cd_243 54 = some (.getfield 56) by decide +kernel) (mg_a hl (a := 31) (show jw_fld 34 56 16 = some 20 by decide +kernel) (by decide) (by decide)) ?_
      refine jr_1 jm_243 (show jw_cd cd_243 57 = some (.iload_n 1) by decide +kernel) rfl ?_
      refine jr_1 jm_243 (show jw_cd cd_243 58 = some (.iaload) by decide +kernel) (ma_i hl (i := s) (e := b) 20 (by omega) (by show _ < ((144 : Nat) : Int); omega) ((su_nf (by decide)).trans e20b) (by decide) (by decide) (by decide)) ?_
      refine jr_1 jm_243 (show jw_cd cd_243 59 = some (.iconst 1) by decide +kernel) rfl ?_
      refine jr_1 jm_243 (show jw_cd cd_243 60 = some (.iload_n 2) by decide +kernel) rfl ?_
      refine jr_1 jm_243 (show jw_cd cd_243 61 = some (.ishl) by decide +kernel) (mt_ishl (c := 2) (by decide)) ?_
      refine jr_1 jm_243 (show jw_cd cd_243 62 = some (.ior) by decide +kernel) (mt_ior (c := b + 2) (ior_1 hb)) ?_
      refine jr_1 jm_243 (show jw_cd cd_243 63 = some (.iastore) by decide +kernel) (ms_i hl (i := s) (x := b + 2) 20 (by omega) (by show _ < ((144 : Nat) : Int); omega) (by decide) (by decide) (by decide)) ?_
      refine jr_1 jm_243 (show jw_cd cd_243 64 = some (.iload 5) by decide +kernel) rfl ?_
      refine jr_1 jm_243 (show jw_cd cd_243 66 = some (.ifCond .eq 21) by decide +kernel) (mz_t (q := .eq) (a := 0) (t := 87) (by show 0 = 0; omega) ⟨by omega, by omega⟩ (by decide) (by decide)) ?_
      exact kk
    | inr x =>
      obtain ⟨x, q⟩ := x
      obtain ⟨k1, k2, k3⟩ := hk.2 x q hs
      dsimp only
      have hF : nbF σ (su (su (su (su σ 32 (0) (x)) 28 (0) (q)) 21 (3 * s + 1) (x)) 20 (s) (b + 2)) s := nbF_su (nbF_su (nbF_su (nbF_su (nbF_refl _ _) (by omega)) (by omega)) (by omega)) (by omega)
      have hPw : rP (su (su (su (su σ 32 (0) (x)) 28 (0) (q)) 21 (3 * s + 1) (x)) 20 (s) (b + 2)) T n q := rP_su (rP_su (rP_mv (rP_su hP (by decide) (by decide) (by decide))) (by decide) (by decide) (by decide)) (by decide) (by decide) (by decide)
      rw [if_neg (fun z => by cases z.1)]
      · skip
        refine ⟨fun e' he => (by cases he), fun a q he => ?_⟩
        cases he
        refine ⟨(su (su (su (su σ 32 (0) (x)) 28 (0) (q)) 21 (3 * s + 1) (x)) 20 (s) (b + 2)), some (.int (Int32.ofInt 1)), fun res kk => ?_, hPw, su_eq _ _ _ _, fun y hy => ?_, fun v hv => by rw [su_nf (by decide), su_ni hv, su_nf (by decide), su_nf (by decide)], hF⟩
        rotate_left
        · cases hy
          rw [su_nf (by decide), su_eq]
        refine jr_1 jm_243 (show jw_cd cd_243 15 = some (.aload_n 0) by decide +kernel) rfl ?_
        refine jr_1 jm_243 (show jw_cd cd_243 16 = some (.getfield 145) by decide +kernel) (mg_i hl (e := p) hP.2.2.1 (show jw_fld 34 145 16 = some 28 by decide +kernel) (by decide) (by decide)) ?_
        refine jr_1 jm_243 (F2 := (21, [some (.ref 15), some (.int (Int32.ofInt (s))), some (.int (Int32.ofInt (1))), some (.int (Int32.ofInt (1))), some (.int (Int32.ofInt (p))), c5], [], ml_mk h σ)) (show jw_cd cd_243 19 = some (.istore 4) by decide +kernel) rfl ?_
        refine jr_1 jm_243 (show jw_cd cd_243 21 = some (.aload_n 0) by decide +kernel) rfl ?_
        refine jr_c jm_243 (show jw_cd cd_243 22 = some (.invokevirtual 182) by decide +kernel) (mc_v hl (n := 0) (m2 := 223) (bs := []) (r := []) (show jw_find jw_cvT 34 182 = some (0, [(16, 223)]) by decide +kernel) (by decide) rfl rfl rfl) jm_223 ⟨Nat.le_of_ble_eq_true rfl, by decide⟩ r0 ?_
        refine jr_1 jm_243 (show jw_cd cd_243 25 = some (.ifCond .eq 62) by decide +kernel) (mz_f (q := .eq) (a := 1) (by show ¬ (1 = 0); omega) ⟨by omega, by omega⟩ (by decide)) ?_
        refine jr_1 jm_243 (show jw_cd cd_243 28 = some (.aload_n 0) by decide +kernel) rfl ?_
        refine jr_c jm_243 (show jw_cd cd_243 29 = some (.invokevirtual 186) by decide +kernel) (mc_v hl (n := 0) (m2 := 225) (bs := []) (r := []) (show jw_find jw_cvT 34 186 = some (0, [(16, 225)]) by decide +kernel) (by decide) rfl rfl rfl) jm_225 ⟨Nat.le_of_ble_eq_true rfl, by decide⟩ (jn_readNumber_ok hl ht hP.1 hP.2.1 hP.2.2.1 h0 hp (by rw [hP.2.2.2]; exact mr0) hs) ?_
        refine jr_1 jm_243 (F2 := (34, [some (.ref 15), some (.int (Int32.ofInt (s))), some (.int (Int32.ofInt (1))), some (.int (Int32.ofInt (1))), some (.int (Int32.ofInt (p))), some (.int (Int32.ofInt (1)))], [], ml_mk h (su (su σ 32 (0) (x)) 28 (0) (q)))) (show jw_cd cd_243 32 = some (.istore 5) by decide +kernel) rfl ?_
        refine jr_1 jm_243 (show jw_cd cd_243 34 = some (.aload_n 0) by decide +kernel) rfl ?_
        refine jr_1 jm_243 (show jw_cd cd_243 35 = some (.getfield 59) by decide +kernel) (mg_a hl (a := 32) (show jw_fld 34 59 16 = some 21 by decide +kernel) (by decide) (by decide)) ?_
        refine jr_1 jm_243 (show jw_cd cd_243 38 = some (.iconst 3) by decide +kernel) rfl ?_
        refine jr_1 jm_243 (show jw_cd cd_243 39 = some (.iload_n 1) by decide +kernel) rfl ?_
        refine jr_1 jm_243 (show jw_cd cd_243 40 = some (.imul) by decide +kernel) (mt_mul (c := 3 * s) rfl) ?_
        refine jr_1 jm_243 (show jw_cd cd_243 41 = some (.iload_n 2) by decide +kernel) rfl ?_
        refine jr_1 jm_243 (show jw_cd cd_243 42 = some (.iadd) by decide +kernel) (mt_add (c := 3 * s + 1) rfl) ?_
        refine jr_1 jm_243 (show jw_cd cd_243 43 = some (.aload_n 0) by decide +kernel) rfl ?_
        refine jr_1 jm_243 (show jw_cd cd_243 44 = some (.getfield 173) by decide +kernel) (mg_i hl (e := x) ((su_nf (by decide)).trans (su_eq _ _ _ _)) (show jw_fld 34 173 16 = some 32 by decide +kernel) (by decide) (by decide)) ?_
        refine jr_1 jm_243 (show jw_cd cd_243 47 = some (.iastore) by decide +kernel) (ms_i hl (i := 3 * s + 1) (x := x) 21 (by omega) (by show _ < ((432 : Nat) : Int); omega) (by decide) (by decide) (by decide)) ?_
        refine jr_1 jm_243 (show jw_cd cd_243 48 = some (.aload_n 0) by decide +kernel) rfl ?_
        refine jr_1 jm_243 (show jw_cd cd_243 49 = some (.getfield 56) by decide +kernel) (mg_a hl (a := 31) (show jw_fld 34 56 16 = some 20 by decide +kernel) (by decide) (by decide)) ?_
        refine jr_1 jm_243 (show jw_cd cd_243 52 = some (.iload_n 1) by decide +kernel) rfl ?_
        refine jr_1 jm_243 (show jw_cd cd_243 53 = some (.aload_n 0) by decide +kernel) rfl ?_
        refine jr_1 jm_243 (show jw_cd cd_243 54 = some (.getfield 56) by decide +kernel) (mg_a hl (a := 31) (show jw_fld 34 56 16 = some 20 by decide +kernel) (by decide) (by decide)) ?_
        refine jr_1 jm_243 (show jw_cd cd_243 57 = some (.iload_n 1) by decide +kernel) rfl ?_
        refine jr_1 jm_243 (show jw_cd cd_243 58 = some (.iaload) by decide +kernel) (ma_i hl (i := s) (e := b) 20 (by omega) (by show _ < ((144 : Nat) : Int); omega) ((su_nf (by decide)).trans ((su_nf (by decide)).trans ((su_nf (by decide)).trans e20))) (by decide) (by decide) (by decide)) ?_
        refine jr_1 jm_243 (show jw_cd cd_243 59 = some (.iconst 1) by decide +kernel) rfl ?_
        refine jr_1 jm_243 (show jw_cd cd_243 60 = some (.iload_n 2) by decide +kernel) rfl ?_
        refine jr_1 jm_243 (show jw_cd cd_243 61 = some (.ishl) by decide +kernel) (mt_ishl (c := 2) (by decide)) ?_
        refine jr_1 jm_243 (show jw_cd cd_243 62 = some (.ior) by decide +kernel) (mt_ior (c := b + 2) (ior_1 hb)) ?_
        refine jr_1 jm_243 (show jw_cd cd_243 63 = some (.iastore) by decide +kernel) (ms_i hl (i := s) (x := b + 2) 20 (by omega) (by show _ < ((144 : Nat) : Int); omega) (by decide) (by decide) (by decide)) ?_
        refine jr_1 jm_243 (show jw_cd cd_243 64 = some (.iload 5) by decide +kernel) rfl ?_
        refine jr_1 jm_243 (show jw_cd cd_243 66 = some (.ifCond .eq 21) by decide +kernel) (mz_f (q := .eq) (a := 1) (by show ¬ (1 = 0); omega) ⟨by omega, by omega⟩ (by decide)) ?_
        refine jr_1 jm_243 (show jw_cd cd_243 69 = some (.iload_n 2) by decide +kernel) rfl ?_
        refine jr_1 jm_243 (show jw_cd cd_243 70 = some (.iconst 2) by decide +kernel) rfl ?_
        refine jr_1 jm_243 (show jw_cd cd_243 71 = some (.if_icmp .ne 16) by decide +kernel) (mb_t (q := .ne) (a := 1) (b := 2) (t := 87) (by show ¬ (1 = 2); omega) ⟨by omega, by omega⟩ ⟨by omega, by omega⟩ (by decide) (by decide)) ?_
        exact kk
  · rw [if_neg h1] at r0
    rw [if_neg h1]
    refine ⟨fun e' he => (by cases he), fun a q he => ?_⟩
    cases he
    refine ⟨σ, c5, fun res kk => ?_, hP, by rw [e20]; show b = b + 0; omega, fun y hy => (by cases hy), fun _ _ => rfl, nbF_refl _ _⟩
    refine jr_1 jm_243 (show jw_cd cd_243 15 = some (.aload_n 0) by decide +kernel) rfl ?_
    refine jr_1 jm_243 (show jw_cd cd_243 16 = some (.getfield 145) by decide +kernel) (mg_i hl (e := p) hP.2.2.1 (show jw_fld 34 145 16 = some 28 by decide +kernel) (by decide) (by decide)) ?_
    refine jr_1 jm_243 (F2 := (21, [some (.ref 15), some (.int (Int32.ofInt (s))), some (.int (Int32.ofInt (1))), some (.int (Int32.ofInt (1))), some (.int (Int32.ofInt (p))), c5], [], ml_mk h σ)) (show jw_cd cd_243 19 = some (.istore 4) by decide +kernel) rfl ?_
    refine jr_1 jm_243 (show jw_cd cd_243 21 = some (.aload_n 0) by decide +kernel) rfl ?_
    refine jr_c jm_243 (show jw_cd cd_243 22 = some (.invokevirtual 182) by decide +kernel) (mc_v hl (n := 0) (m2 := 223) (bs := []) (r := []) (show jw_find jw_cvT 34 182 = some (0, [(16, 223)]) by decide +kernel) (by decide) rfl rfl rfl) jm_223 ⟨Nat.le_of_ble_eq_true rfl, by decide⟩ r0 ?_
    refine jr_1 jm_243 (show jw_cd cd_243 25 = some (.ifCond .eq 62) by decide +kernel) (mz_t (q := .eq) (a := 0) (t := 87) (by show 0 = 0; omega) ⟨by omega, by omega⟩ (by decide) (by decide)) ?_
    exact kk
theorem jn_nb_2 {β : Bool} {d : Nat} {h : jx_H} {σ : mS} (hl : 49 ≤ h.length) {T : Int → Int} {n p : Int} (ht : tOK T n) (hP : rP σ T n p) (h0 : 0 ≤ p) (hp : p ≤ n) {s b : Int} {c4 c5 : Option Value} (hs9 : 0 ≤ s ∧ s < 144) (e20 : σ 20 s = b) (hb : 0 ≤ b ∧ b < 4) : (∀ e, sOpt T n p true = .inl e → ∃ (τ : mS) (c : Option Value), (∀ res, jx_r (jz β) jw_M (d + 3) 243 (87, [some (.ref 15), some (.int (Int32.ofInt (s))), some (.int (Int32.ofInt (2))), some (.int (Int32.ofInt (1))), some (.int (Int32.ofInt (p))), c], [], ml_mk h τ) res → jx_r (jz β) jw_M (d + 3) 243 (15, [some (.ref 15), some (.int (Int32.ofInt (s))), some (.int (Int32.ofInt (2))), some (.int (Int32.ofInt (1))), c4, c5], [], ml_mk h σ) res) ∧ τ 29 0 = -1 - e ∧ nbF σ τ s ∧ 1 ≤ τ 20 s ∧ τ 20 s ≤ 7) ∧ (∀ a q, sOpt T n p true = .inr (a, q) → ∃ (τ : mS) (c : Option Value), (∀ res, jx_r (jz β) jw_M (d + 3) 243 (87, [some (.ref 15), some (.int (Int32.ofInt (s))), some (.int (Int32.ofInt (2))), some (.int (Int32.ofInt (1))), some (.int (Int32.ofInt (p))), c], [], ml_mk h τ) res → jx_r (jz β) jw_M (d + 3) 243 (15, [some (.ref 15), some (.int (Int32.ofInt (s))), some (.int (Int32.ofInt (2))), some (.int (Int32.ofInt (1))), c4, c5], [], ml_mk h σ) res) ∧ rP τ T n q ∧ τ 20 s = b + bit1 a 4 ∧ (∀ x, a = some x → τ 21 (3 * s + 2) = x) ∧ (∀ v, ¬ v = 3 * s + 2 → τ 21 v = σ 21 v) ∧ nbF σ τ s) := by
  obtain ⟨s0, s1⟩ := hs9
  have hn160 := ht.2.1
  have hh := tH_r (p := p) ht h0
  have r0 := jn_nb (β := β) (d := d + 1) (h := h) hl ht hP.1 hP.2.1 hP.2.2.1 h0 hp
  unfold sOpt
  by_cases h1 : pN (tH T n p) = true
  · rw [if_pos h1] at r0
    rw [if_pos h1]
    have hk := sNum_R ht h0 hp
    cases hs : sNum T n p with
    | inl e =>
      obtain ⟨τ1, r1, r2, r3⟩ := jn_readNumber_er (β := β) (d := d) (h := h) hl ht hP.1 hP.2.1 hP.2.2.1 h0 hp (by rw [hP.2.2.2]; exact mr0) hP.2.2.2 hs
      have e20b : τ1 20 s = b := by rw [r3 20 (by decide)]; exact e20
      refine ⟨fun e' he => ?_, fun a q he => (by cases he)⟩
      cases he
      refine ⟨(su (su τ1 21 (3 * s + 2) (τ1 32 0)) 20 (s) (b + 4)), some (.int (Int32.ofInt 0)), fun res kk => ?_, by rw [su_nf (by decide), su_nf (by decide)]; exact r2, nbF_su (nbF_su (nbF_q (by decide) r3) (by omega)) (by omega), by rw [su_eq]; omega, by rw [su_eq]; omega⟩
      refine jr_1 jm_243 (show jw_cd cd_243 15 = some (.aload_n 0) by decide +kernel) rfl ?_
      refine jr_1 jm_243 (show jw_cd cd_243 16 = some (.getfield 145) by decide +kernel) (mg_i hl (e := p) hP.2.2.1 (show jw_fld 34 145 16 = some 28 by decide +kernel) (by decide) (by decide)) ?_
      refine jr_1 jm_243 (F2 := (21, [some (.ref 15), some (.int (Int32.ofInt (s))), some (.int (Int32.ofInt (2))), some (.int (Int32.ofInt (1))), some (.int (Int32.ofInt (p))), c5], [], ml_mk h σ)) (show jw_cd cd_243 19 = some (.istore 4) by decide +kernel) rfl ?_
      refine jr_1 jm_243 (show jw_cd cd_243 21 = some (.aload_n 0) by decide +kernel) rfl ?_
      refine jr_c jm_243 (show jw_cd cd_243 22 = some (.invokevirtual 182) by decide +kernel) (mc_v hl (n := 0) (m2 := 223) (bs := []) (r := []) (show jw_find jw_cvT 34 182 = some (0, [(16, 223)]) by decide +kernel) (by decide) rfl rfl rfl) jm_223 ⟨Nat.le_of_ble_eq_true rfl, by decide⟩ r0 ?_
      refine jr_1 jm_243 (show jw_cd cd_243 25 = some (.ifCond .eq 62) by decide +kernel) (mz_f (q := .eq) (a := 1) (by show ¬ (1 = 0); omega) ⟨by omega, by omega⟩ (by decide)) ?_
      refine jr_1 jm_243 (show jw_cd cd_243 28 = some (.aload_n 0) by decide +kernel) rfl ?_
      refine jr_c jm_243 (show jw_cd cd_243 29 = some (.invokevirtual 186) by decide +kernel) (mc_v hl (n := 0) (m2 := 225) (bs := []) (r := []) (show jw_find jw_cvT 34 186 = some (0, [(16, 225)]) by decide +kernel) (by decide) rfl rfl rfl) jm_225 ⟨Nat.le_of_ble_eq_true rfl, by decide⟩ r1 ?_
      refine jr_1 jm_243 (F2 := (34, [some (.ref 15), some (.int (Int32.ofInt (s))), some (.int (Int32.ofInt (2))), some (.int (Int32.ofInt (1))), some (.int (Int32.ofInt (p))), some (.int (Int32.ofInt (0)))], [], ml_mk h τ1)) (show jw_cd cd_243 32 = some (.istore 5) by decide +kernel) rfl ?_
      refine jr_1 jm_243 (show jw_cd cd_243 34 = some (.aload_n 0) by decide +kernel) rfl ?_
      refine jr_1 jm_243 (show jw_cd cd_243 35 = some (.getfield 59) by decide +kernel) (mg_a hl (a := 32) (show jw_fld 34 59 16 = some 21 by decide +kernel) (by decide) (by decide)) ?_
      refine jr_1 jm_243 (show jw_cd cd_243 38 = some (.iconst 3) by decide +kernel) rfl ?_
      refine jr_1 jm_243 (show jw_cd cd_243 39 = some (.iload_n 1) by decide +kernel) rfl ?_
      refine jr_1 jm_243 (show jw_cd cd_243 40 = some (.imul) by decide +kernel) (mt_mul (c := 3 * s) rfl) ?_
      refine jr_1 jm_243 (show jw_cd cd_243 41 = some (.iload_n 2) by decide +kernel) rfl ?_
      refine jr_1 jm_243 (show jw_cd cd_243 42 = some (.iadd) by decide +kernel) (mt_add (c := 3 * s + 2) rfl) ?_
      refine jr_1 jm_243 (show jw_cd cd_243 43 = some (.aload_n 0) by decide +kernel) rfl ?_
      refine jr_1 jm_243 (show jw_cd cd_243 44 = some (.getfield 173) by decide +kernel) (mg_i hl (e := τ1 32 0) rfl (show jw_fld 34 173 16 = some 32 by decide +kernel) (by decide) (by decide)) ?_
      refine jr_1 jm_243 (show jw_cd cd_243 47 = some (.iastore) by decide +kernel) (ms_i hl (i := 3 * s + 2) (x := τ1 32 0) 21 (by omega) (by show _ < ((432 : Nat) : Int); omega) (by decide) (by decide) (by decide)) ?_
      refine jr_1 jm_243 (show jw_cd cd_243 48 = some (.aload_n 0) by decide +kernel) rfl ?_
      refine jr_1 jm_243 (show jw_cd cd_243 49 = some (.getfield 56) by decide +kernel) (mg_a hl (a := 31) (show jw_fld 34 56 16 = some 20 by decide +kernel) (by decide) (by decide)) ?_
      refine jr_1 jm_243 (show jw_cd cd_243 52 = some (.iload_n 1) by decide +kernel) rfl ?_
      refine jr_1 jm_243 (show jw_cd cd_243 53 = some (.aload_n 0) by decide +kernel) rfl ?_
      refine jr_1 jm_243 (show jw_cd cd_243 54 = some (.getfield 56) by decide +kernel) (mg_a hl (a := 31) (show jw_fld 34 56 16 = some 20 by decide +kernel) (by decide) (by decide)) ?_
      refine jr_1 jm_243 (show jw_cd cd_243 57 = some (.iload_n 1) by decide +kernel) rfl ?_
      refine jr_1 jm_243 (show jw_cd cd_243 58 = some (.iaload) by decide +kernel) (ma_i hl (i := s) (e := b) 20 (by omega) (by show _ < ((144 : Nat) : Int); omega) ((su_nf (by decide)).trans e20b) (by decide) (by decide) (by decide)) ?_
      refine jr_1 jm_243 (show jw_cd cd_243 59 = some (.iconst 1) by decide +kernel) rfl ?_
      refine jr_1 jm_243 (show jw_cd cd_243 60 = some (.iload_n 2) by decide +kernel) rfl ?_
      refine jr_1 jm_243 (show jw_cd cd_243 61 = some (.ishl) by decide +kernel) (mt_ishl (c := 4) (by decide)) ?_
      refine jr_1 jm_243 (show jw_cd cd_243 62 = some (.ior) by decide +kernel) (mt_ior (c := b + 4) (ior_2 hb)) ?_
      refine jr_1 jm_243 (show jw_cd cd_243 63 = some (.iastore) by decide +kernel) (ms_i hl (i := s) (x := b + 4) 20 (by omega) (by show _ < ((144 : Nat) : Int); omega) (by decide) (by decide) (by decide)) ?_
      refine jr_1 jm_243 (show jw_cd cd_243 64 = some (.iload 5) by decide +kernel) rfl ?_
      refine jr_1 jm_243 (show jw_cd cd_243 66 = some (.ifCond .eq 21) by decide +kernel) (mz_t (q := .eq) (a := 0) (t := 87) (by show 0 = 0; omega) ⟨by omega, by omega⟩ (by decide) (by decide)) ?_
      exact kk
    | inr x =>
      obtain ⟨x, q⟩ := x
      obtain ⟨k1, k2, k3⟩ := hk.2 x q hs
      dsimp only
      have hF : nbF σ (su (su (su (su σ 32 (0) (x)) 28 (0) (q)) 21 (3 * s + 2) (x)) 20 (s) (b + 4)) s := nbF_su (nbF_su (nbF_su (nbF_su (nbF_refl _ _) (by omega)) (by omega)) (by omega)) (by omega)
      have hPw : rP (su (su (su (su σ 32 (0) (x)) 28 (0) (q)) 21 (3 * s + 2) (x)) 20 (s) (b + 4)) T n q := rP_su (rP_su (rP_mv (rP_su hP (by decide) (by decide) (by decide))) (by decide) (by decide) (by decide)) (by decide) (by decide) (by decide)
      by_cases hx : x = 0
      · rw [if_pos ⟨rfl, hx⟩]
        refine ⟨fun e' he => ?_, fun a q he => (by cases he)⟩
        cases he
        refine ⟨(su (su (su (su (su σ 32 (0) (x)) 28 (0) (q)) 21 (3 * s + 2) (x)) 20 (s) (b + 4)) 29 0 (-1 - p)), some (.int (Int32.ofInt 1)), fun res kk => ?_, su_eq _ _ _ _, nbF_su hF (by omega), by rw [su_nf (by decide), su_eq]; omega, by rw [su_nf (by decide), su_eq]; omega⟩
        refine jr_1 jm_243 (show jw_cd cd_243 15 = some (.aload_n 0) by decide +kernel) rfl ?_
        refine jr_1 jm_243 (show jw_cd cd_243 16 = some (.getfield 145) by decide +kernel) (mg_i hl (e := p) hP.2.2.1 (show jw_fld 34 145 16 = some 28 by decide +kernel) (by decide) (by decide)) ?_
        refine jr_1 jm_243 (F2 := (21, [some (.ref 15), some (.int (Int32.ofInt (s))), some (.int (Int32.ofInt (2))), some (.int (Int32.ofInt (1))), some (.int (Int32.ofInt (p))), c5], [], ml_mk h σ)) (show jw_cd cd_243 19 = some (.istore 4) by decide +kernel) rfl ?_
        refine jr_1 jm_243 (show jw_cd cd_243 21 = some (.aload_n 0) by decide +kernel) rfl ?_
        refine jr_c jm_243 (show jw_cd cd_243 22 = some (.invokevirtual 182) by decide +kernel) (mc_v hl (n := 0) (m2 := 223) (bs := []) (r := []) (show jw_find jw_cvT 34 182 = some (0, [(16, 223)]) by decide +kernel) (by decide) rfl rfl rfl) jm_223 ⟨Nat.le_of_ble_eq_true rfl, by decide⟩ r0 ?_
        refine jr_1 jm_243 (show jw_cd cd_243 25 = some (.ifCond .eq 62) by decide +kernel) (mz_f (q := .eq) (a := 1) (by show ¬ (1 = 0); omega) ⟨by omega, by omega⟩ (by decide)) ?_
        refine jr_1 jm_243 (show jw_cd cd_243 28 = some (.aload_n 0) by decide +kernel) rfl ?_
        refine jr_c jm_243 (show jw_cd cd_243 29 = some (.invokevirtual 186) by decide +kernel) (mc_v hl (n := 0) (m2 := 225) (bs := []) (r := []) (show jw_find jw_cvT 34 186 = some (0, [(16, 225)]) by decide +kernel) (by decide) rfl rfl rfl) jm_225 ⟨Nat.le_of_ble_eq_true rfl, by decide⟩ (jn_readNumber_ok hl ht hP.1 hP.2.1 hP.2.2.1 h0 hp (by rw [hP.2.2.2]; exact mr0) hs) ?_
        refine jr_1 jm_243 (F2 := (34, [some (.ref 15), some (.int (Int32.ofInt (s))), some (.int (Int32.ofInt (2))), some (.int (Int32.ofInt (1))), some (.int (Int32.ofInt (p))), some (.int (Int32.ofInt (1)))], [], ml_mk h (su (su σ 32 (0) (x)) 28 (0) (q)))) (show jw_cd cd_243 32 = some (.istore 5) by decide +kernel) rfl ?_
        refine jr_1 jm_243 (show jw_cd cd_243 34 = some (.aload_n 0) by decide +kernel) rfl ?_
        refine jr_1 jm_243 (show jw_cd cd_243 35 = some (.getfield 59) by decide +kernel) (mg_a hl (a := 32) (show jw_fld 34 59 16 = some 21 by decide +kernel) (by decide) (by decide)) ?_
        refine jr_1 jm_243 (show jw_cd cd_243 38 = some (.iconst 3) by decide +kernel) rfl ?_
        refine jr_1 jm_243 (show jw_cd cd_243 39 = some (.iload_n 1) by decide +kernel) rfl ?_
        refine jr_1 jm_243 (show jw_cd cd_243 40 = some (.imul) by decide +kernel) (mt_mul (c := 3 * s) rfl) ?_
        refine jr_1 jm_243 (show jw_cd cd_243 41 = some (.iload_n 2) by decide +kernel) rfl ?_
        refine jr_1 jm_243 (show jw_cd cd_243 42 = some (.iadd) by decide +kernel) (mt_add (c := 3 * s + 2) rfl) ?_
        refine jr_1 jm_243 (show jw_cd cd_243 43 = some (.aload_n 0) by decide +kernel) rfl ?_
        refine jr_1 jm_243 (show jw_cd cd_243 44 = some (.getfield 173) by decide +kernel) (mg_i hl (e := x) ((su_nf (by decide)).trans (su_eq _ _ _ _)) (show jw_fld 34 173 16 = some 32 by decide +kernel) (by decide) (by decide)) ?_
        refine jr_1 jm_243 (show jw_cd cd_243 47 = some (.iastore) by decide +kernel) (ms_i hl (i := 3 * s + 2) (x := x) 21 (by omega) (by show _ < ((432 : Nat) : Int); omega) (by decide) (by decide) (by decide)) ?_
        refine jr_1 jm_243 (show jw_cd cd_243 48 = some (.aload_n 0) by decide +kernel) rfl ?_
        refine jr_1 jm_243 (show jw_cd cd_243 49 = some (.getfield 56) by decide +kernel) (mg_a hl (a := 31) (show jw_fld 34 56 16 = some 20 by decide +kernel) (by decide) (by decide)) ?_
        refine jr_1 jm_243 (show jw_cd cd_243 52 = some (.iload_n 1) by decide +kernel) rfl ?_
        refine jr_1 jm_243 (show jw_cd cd_243 53 = some (.aload_n 0) by decide +kernel) rfl ?_
        refine jr_1 jm_243 (show jw_cd cd_243 54 = some (.getfield 56) by decide +kernel) (mg_a hl (a := 31) (show jw_fld 34 56 16 = some 20 by decide +kernel) (by decide) (by decide)) ?_
        refine jr_1 jm_243 (show jw_cd cd_243 57 = some (.iload_n 1) by decide +kernel) rfl ?_
        refine jr_1 jm_243 (show jw_cd cd_243 58 = some (.iaload) by decide +kernel) (ma_i hl (i := s) (e := b) 20 (by omega) (by show _ < ((144 : Nat) : Int); omega) ((su_nf (by decide)).trans ((su_nf (by decide)).trans ((su_nf (by decide)).trans e20))) (by decide) (by decide) (by decide)) ?_
        refine jr_1 jm_243 (show jw_cd cd_243 59 = some (.iconst 1) by decide +kernel) rfl ?_
        refine jr_1 jm_243 (show jw_cd cd_243 60 = some (.iload_n 2) by decide +kernel) rfl ?_
        refine jr_1 jm_243 (show jw_cd cd_243 61 = some (.ishl) by decide +kernel) (mt_ishl (c := 4) (by decide)) ?_
        refine jr_1 jm_243 (show jw_cd cd_243 62 = some (.ior) by decide +kernel) (mt_ior (c := b + 4) (ior_2 hb)) ?_
        refine jr_1 jm_243 (show jw_cd cd_243 63 = some (.iastore) by decide +kernel) (ms_i hl (i := s) (x := b + 4) 20 (by omega) (by show _ < ((144 : Nat) : Int); omega) (by decide) (by decide) (by decide)) ?_
        refine jr_1 jm_243 (show jw_cd cd_243 64 = some (.iload 5) by decide +kernel) rfl ?_
        refine jr_1 jm_243 (show jw_cd cd_243 66 = some (.ifCond .eq 21) by decide +kernel) (mz_f (q := .eq) (a := 1) (by show ¬ (1 = 0); omega) ⟨by omega, by omega⟩ (by decide)) ?_
        refine jr_1 jm_243 (show jw_cd cd_243 69 = some (.iload_n 2) by decide +kernel) rfl ?_
        refine jr_1 jm_243 (show jw_cd cd_243 70 = some (.iconst 2) by decide +kernel) rfl ?_
        refine jr_1 jm_243 (show jw_cd cd_243 71 = some (.if_icmp .ne 16) by decide +kernel) (mb_f (q := .ne) (a := 2) (b := 2) (by show ¬ (¬ (2 = 2)); omega) ⟨by omega, by omega⟩ ⟨by omega, by omega⟩ (by decide)) ?_
        refine jr_1 jm_243 (show jw_cd cd_243 74 = some (.aload_n 0) by decide +kernel) rfl ?_
        refine jr_1 jm_243 (show jw_cd cd_243 75 = some (.getfield 173) by decide +kernel) (mg_i hl (e := x) ((su_nf (by decide)).trans ((su_nf (by decide)).trans ((su_nf (by decide)).trans (su_eq _ _ _ _)))) (show jw_fld 34 173 16 = some 32 by decide +kernel) (by decide) (by decide)) ?_
        refine jr_1 jm_243 (show jw_cd cd_243 78 = some (.ifCond .ne 9) by decide +kernel) (mz_f (q := .ne) (a := x) (by show ¬ (¬ (x = 0)); omega) ⟨by omega, by omega⟩ (by decide)) ?_
        refine jr_1 jm_243 (show jw_cd cd_243 81 = some (.aload_n 0) by decide +kernel) rfl ?_
        refine jr_1 jm_243 (show jw_cd cd_243 82 = some (.iload 4) by decide +kernel) rfl ?_
        refine jr_c jm_243 (show jw_cd cd_243 84 = some (.invokevirtual 155) by decide +kernel) (mc_v hl (n := 1) (m2 := 216) (bs := [.int (Int32.ofInt (p))]) (r := []) (show jw_find jw_cvT 34 155 = some (1, [(16, 216)]) by decide +kernel) (by decide) rfl rfl rfl) jm_216 ⟨Nat.le_of_ble_eq_true rfl, by decide⟩ (jn_wrg hl hPw) ?_
        exact kk
      · rw [if_neg (fun z => hx z.2)]
        refine ⟨fun e' he => (by cases he), fun a q he => ?_⟩
        cases he
        refine ⟨(su (su (su (su σ 32 (0) (x)) 28 (0) (q)) 21 (3 * s + 2) (x)) 20 (s) (b + 4)), some (.int (Int32.ofInt 1)), fun res kk => ?_, hPw, su_eq _ _ _ _, fun y hy => ?_, fun v hv => by rw [su_nf (by decide), su_ni hv, su_nf (by decide), su_nf (by decide)], hF⟩
        rotate_left
        · cases hy
          rw [su_nf (by decide), su_eq]
        refine jr_1 jm_243 (show jw_cd cd_243 15 = some (.aload_n 0) by decide +kernel) rfl ?_
        refine jr_1 jm_243 (show jw_cd cd_243 16 = some (.getfield 145) by decide +kernel) (mg_i hl (e := p) hP.2.2.1 (show jw_fld 34 145 16 = some 28 by decide +kernel) (by decide) (by decide)) ?_
        refine jr_1 jm_243 (F2 := (21, [some (.ref 15), some (.int (Int32.ofInt (s))), some (.int (Int32.ofInt (2))), some (.int (Int32.ofInt (1))), some (.int (Int32.ofInt (p))), c5], [], ml_mk h σ)) (show jw_cd cd_243 19 = some (.istore 4) by decide +kernel) rfl ?_
        refine jr_1 jm_243 (show jw_cd cd_243 21 = some (.aload_n 0) by decide +kernel) rfl ?_
        refine jr_c jm_243 (show jw_cd cd_243 22 = some (.invokevirtual 182) by decide +kernel) (mc_v hl (n := 0) (m2 := 223) (bs := []) (r := []) (show jw_find jw_cvT 34 182 = some (0, [(16, 223)]) by decide +kernel) (by decide) rfl rfl rfl) jm_223 ⟨Nat.le_of_ble_eq_true rfl, by decide⟩ r0 ?_
        refine jr_1 jm_243 (show jw_cd cd_243 25 = some (.ifCond .eq 62) by decide +kernel) (mz_f (q := .eq) (a := 1) (by show ¬ (1 = 0); omega) ⟨by omega, by omega⟩ (by decide)) ?_
        refine jr_1 jm_243 (show jw_cd cd_243 28 = some (.aload_n 0) by decide +kernel) rfl ?_
        refine jr_c jm_243 (show jw_cd cd_243 29 = some (.invokevirtual 186) by decide +kernel) (mc_v hl (n := 0) (m2 := 225) (bs := []) (r := []) (show jw_find jw_cvT 34 186 = some (0, [(16, 225)]) by decide +kernel) (by decide) rfl rfl rfl) jm_225 ⟨Nat.le_of_ble_eq_true rfl, by decide⟩ (jn_readNumber_ok hl ht hP.1 hP.2.1 hP.2.2.1 h0 hp (by rw [hP.2.2.2]; exact mr0) hs) ?_
        refine jr_1 jm_243 (F2 := (34, [some (.ref 15), some (.int (Int32.ofInt (s))), some (.int (Int32.ofInt (2))), some (.int (Int32.ofInt (1))), some (.int (Int32.ofInt (p))), some (.int (Int32.ofInt (1)))], [], ml_mk h (su (su σ 32 (0) (x)) 28 (0) (q)))) (show jw_cd cd_243 32 = some (.istore 5) by decide +kernel) rfl ?_
        refine jr_1 jm_243 (show jw_cd cd_243 34 = some (.aload_n 0) by decide +kernel) rfl ?_
        refine jr_1 jm_243 (show jw_cd cd_243 35 = some (.getfield 59) by decide +kernel) (mg_a hl (a := 32) (show jw_fld 34 59 16 = some 21 by decide +kernel) (by decide) (by decide)) ?_
        refine jr_1 jm_243 (show jw_cd cd_243 38 = some (.iconst 3) by decide +kernel) rfl ?_
        refine jr_1 jm_243 (show jw_cd cd_243 39 = some (.iload_n 1) by decide +kernel) rfl ?_
        refine jr_1 jm_243 (show jw_cd cd_243 40 = some (.imul) by decide +kernel) (mt_mul (c := 3 * s) rfl) ?_
        refine jr_1 jm_243 (show jw_cd cd_243 41 = some (.iload_n 2) by decide +kernel) rfl ?_
        refine jr_1 jm_243 (show jw_cd cd_243 42 = some (.iadd) by decide +kernel) (mt_add (c := 3 * s + 2) rfl) ?_
        refine jr_1 jm_243 (show jw_cd cd_243 43 = some (.aload_n 0) by decide +kernel) rfl ?_
        refine jr_1 jm_243 (show jw_cd cd_243 44 = some (.getfield 173) by decide +kernel) (mg_i hl (e := x) ((su_nf (by decide)).trans (su_eq _ _ _ _)) (show jw_fld 34 173 16 = some 32 by decide +kernel) (by decide) (by decide)) ?_
        refine jr_1 jm_243 (show jw_cd cd_243 47 = some (.iastore) by decide +kernel) (ms_i hl (i := 3 * s + 2) (x := x) 21 (by omega) (by show _ < ((432 : Nat) : Int); omega) (by decide) (by decide) (by decide)) ?_
        refine jr_1 jm_243 (show jw_cd cd_243 48 = some (.aload_n 0) by decide +kernel) rfl ?_
        refine jr_1 jm_243 (show jw_cd cd_243 49 = some (.getfield 56) by decide +kernel) (mg_a hl (a := 31) (show jw_fld 34 56 16 = some 20 by decide +kernel) (by decide) (by decide)) ?_
        refine jr_1 jm_243 (show jw_cd cd_243 52 = some (.iload_n 1) by decide +kernel) rfl ?_
        refine jr_1 jm_243 (show jw_cd cd_243 53 = some (.aload_n 0) by decide +kernel) rfl ?_
        refine jr_1 jm_243 (show jw_cd cd_243 54 = some (.getfield 56) by decide +kernel) (mg_a hl (a := 31) (show jw_fld 34 56 16 = some 20 by decide +kernel) (by decide) (by decide)) ?_
        refine jr_1 jm_243 (show jw_cd cd_243 57 = some (.iload_n 1) by decide +kernel) rfl ?_
        refine jr_1 jm_243 (show jw_cd cd_243 58 = some (.iaload) by decide +kernel) (ma_i hl (i := s) (e := b) 20 (by omega) (by show _ < ((144 : Nat) : Int); omega) ((su_nf (by decide)).trans ((su_nf (by decide)).trans ((su_nf (by decide)).trans e20))) (by decide) (by decide) (by decide)) ?_
        refine jr_1 jm_243 (show jw_cd cd_243 59 = some (.iconst 1) by decide +kernel) rfl ?_
        refine jr_1 jm_243 (show jw_cd cd_243 60 = some (.iload_n 2) by decide +kernel) rfl ?_
        refine jr_1 jm_243 (show jw_cd cd_243 61 = some (.ishl) by decide +kernel) (mt_ishl (c := 4) (by decide)) ?_
        refine jr_1 jm_243 (show jw_cd cd_243 62 = some (.ior) by decide +kernel) (mt_ior (c := b + 4) (ior_2 hb)) ?_
        refine jr_1 jm_243 (show jw_cd cd_243 63 = some (.iastore) by decide +kernel) (ms_i hl (i := s) (x := b + 4) 20 (by omega) (by show _ < ((144 : Nat) : Int); omega) (by decide) (by decide) (by decide)) ?_
        refine jr_1 jm_243 (show jw_cd cd_243 64 = some (.iload 5) by decide +kernel) rfl ?_
        refine jr_1 jm_243 (show jw_cd cd_243 66 = some (.ifCond .eq 21) by decide +kernel) (mz_f (q := .eq) (a := 1) (by show ¬ (1 = 0); omega) ⟨by omega, by omega⟩ (by decide)) ?_
        refine jr_1 jm_243 (show jw_cd cd_243 69 = some (.iload_n 2) by decide +kernel) rfl ?_
        refine jr_1 jm_243 (show jw_cd cd_243 70 = some (.iconst 2) by decide +kernel) rfl ?_
        refine jr_1 jm_243 (show jw_cd cd_243 71 = some (.if_icmp .ne 16) by decide +kernel) (mb_f (q := .ne) (a := 2) (b := 2) (by show ¬ (¬ (2 = 2)); omega) ⟨by omega, by omega⟩ ⟨by omega, by omega⟩ (by decide)) ?_
        refine jr_1 jm_243 (show jw_cd cd_243 74 = some (.aload_n 0) by decide +kernel) rfl ?_
        refine jr_1 jm_243 (show jw_cd cd_243 75 = some (.getfield 173) by decide +kernel) (mg_i hl (e := x) ((su_nf (by decide)).trans ((su_nf (by decide)).trans ((su_nf (by decide)).trans (su_eq _ _ _ _)))) (show jw_fld 34 173 16 = some 32 by decide +kernel) (by decide) (by decide)) ?_
        refine jr_1 jm_243 (show jw_cd cd_243 78 = some (.ifCond .ne 9) by decide +kernel) (mz_t (q := .ne) (a := x) (t := 87) (by show ¬ (x = 0); omega) ⟨by omega, by omega⟩ (by decide) (by decide)) ?_
        exact kk
  · rw [if_neg h1] at r0
    rw [if_neg h1]
    refine ⟨fun e' he => (by cases he), fun a q he => ?_⟩
    cases he
    refine ⟨σ, c5, fun res kk => ?_, hP, by rw [e20]; show b = b + 0; omega, fun y hy => (by cases hy), fun _ _ => rfl, nbF_refl _ _⟩
    refine jr_1 jm_243 (show jw_cd cd_243 15 = some (.aload_n 0) by decide +kernel) rfl ?_
    refine jr_1 jm_243 (show jw_cd cd_243 16 = some (.getfield 145) by decide +kernel) (mg_i hl (e := p) hP.2.2.1 (show jw_fld 34 145 16 = some 28 by decide +kernel) (by decide) (by decide)) ?_
    refine jr_1 jm_243 (F2 := (21, [some (.ref 15), some (.int (Int32.ofInt (s))), some (.int (Int32.ofInt (2))), some (.int (Int32.ofInt (1))), some (.int (Int32.ofInt (p))), c5], [], ml_mk h σ)) (show jw_cd cd_243 19 = some (.istore 4) by decide +kernel) rfl ?_
    refine jr_1 jm_243 (show jw_cd cd_243 21 = some (.aload_n 0) by decide +kernel) rfl ?_
    refine jr_c jm_243 (show jw_cd cd_243 22 = some (.invokevirtual 182) by decide +kernel) (mc_v hl (n := 0) (m2 := 223) (bs := []) (r := []) (show jw_find jw_cvT 34 182 = some (0, [(16, 223)]) by decide +kernel) (by decide) rfl rfl rfl) jm_223 ⟨Nat.le_of_ble_eq_true rfl, by decide⟩ r0 ?_
    refine jr_1 jm_243 (show jw_cd cd_243 25 = some (.ifCond .eq 62) by decide +kernel) (mz_t (q := .eq) (a := 0) (t := 87) (by show 0 = 0; omega) ⟨by omega, by omega⟩ (by decide) (by decide)) ?_
    exact kk
