/-! ===== close, as a whole (printed by program: gen56.py) ===== -/
/-- the levels below the top one -/
def lvS (σ : mS) : List (List (Int × Bool)) → Prop
  | [] => σ 40 0 = 0
  | b :: bs => σ 40 ((bs.length : Int) + 1) = tot (b :: bs) ∧ bsR σ (tot bs) b ∧ lvS σ bs
theorem tot_nn (bs : List (List (Int × Bool))) : 0 ≤ tot bs := Int.natCast_nonneg _
theorem lvS_40 {σ : mS} : ∀ {bs : List (List (Int × Bool))}, lvS σ bs → σ 40 (bs.length : Int) = tot bs
  | [], h => h
  | b :: bs, h => by
    have := h.1
    rw [show (((b :: bs).length : Nat) : Int) = (bs.length : Int) + 1 by simp]
    exact this
theorem lvS_fr {σ τ : mS} : ∀ (bs : List (List (Int × Bool))), (∀ j, j < tot bs → τ 38 j = σ 38 j ∧ τ 39 j = σ 39 j) → (∀ j, j ≤ (bs.length : Int) → τ 40 j = σ 40 j) → lvS σ bs → lvS τ bs
  | [], _, h2, h => (h2 0 (by simp)).trans h
  | b :: bs, h1, h2, h => by
    have ht := tot_cons b bs
    refine ⟨(h2 _ (by simp)).trans h.1, bsR_fr b _ (fun j j1 j2 => h1 j (by omega)) h.2.1, lvS_fr bs (fun j hj => h1 j (by omega)) (fun j hj => h2 j (by simp; omega)) h.2.2⟩
/-- what close leaves alone -/
def clG (σ τ : mS) (nn cc : Int) : Prop := (∀ f v, 3 ≤ f → f ≤ 7 → v < 170 * 4 + nn → τ f v = σ f v) ∧ (∀ f x, 8 ≤ f → f ≤ 10 → x < 170 * 4 + cc → τ f x = σ f x) ∧ (∀ f, f ∉ [3, 4, 5, 6, 7, 8, 9, 10, 11, 12, 36, 37, 39, 41] → τ f = σ f) ∧ (∀ v, ¬ v = 4 → τ 11 v = σ 11 v ∧ τ 12 v = σ 12 v)
theorem clG_refl (σ : mS) (nn cc : Int) : clG σ σ nn cc := ⟨fun _ _ _ _ _ => rfl, fun _ _ _ _ _ => rfl, fun _ _ => rfl, fun _ _ => ⟨rfl, rfl⟩⟩
theorem clG_trans {σ τ υ : mS} {nn cc n2 c2 : Int} (h : clG σ τ nn cc) (h2 : clG τ υ n2 c2) (hn : nn ≤ n2) (hc : cc ≤ c2) : clG σ υ nn cc := ⟨fun f v f1 f2 hv => (h2.1 f v f1 f2 (by omega)).trans (h.1 f v f1 f2 hv), fun f v f1 f2 hv => (h2.2.1 f v f1 f2 (by omega)).trans (h.2.1 f v f1 f2 hv), fun f hf => (h2.2.2.1 f hf).trans (h.2.2.1 f hf), fun v hv => ⟨(h2.2.2.2 v hv).1.trans (h.2.2.2 v hv).1, (h2.2.2.2 v hv).2.trans (h.2.2.2 v hv).2⟩⟩
theorem clG_F {σ τ : mS} {nn cc a b : Int} (h : clF σ τ nn cc a b) : clG σ τ nn cc := ⟨h.1, h.2.1, fun f hf => h.2.2.2.1 f (by simp only [List.mem_cons, List.mem_nil_iff, or_false, not_or] at hf ⊢; omega), h.2.2.2.2⟩
theorem clG_41 (σ : mS) (nn cc x : Int) : clG σ (su σ 41 0 x) nn cc := ⟨fun f v f1 f2 _ => su_nf (by omega), fun f v f1 f2 _ => su_nf (by omega), fun f hf => su_row (by simp only [List.mem_cons, List.mem_nil_iff, or_false, not_or] at hf; omega), fun v _ => ⟨su_nf (by decide), su_nf (by decide)⟩⟩
theorem clG_36 (σ : mS) (nn cc x : Int) : clG σ (su σ 36 0 x) nn cc := ⟨fun f v f1 f2 _ => su_nf (by omega), fun f v f1 f2 _ => su_nf (by omega), fun f hf => su_row (by simp only [List.mem_cons, List.mem_nil_iff, or_false, not_or] at hf; omega), fun v _ => ⟨su_nf (by decide), su_nf (by decide)⟩⟩
theorem clo_ok {top : List lT} (hv : ∀ t ∈ top, vokO t.2) : ∀ (b : List (Int × Bool)) (k : Int), ∀ t ∈ clo top k b, vokO t.2
  | [], _, t, h => absurd h List.not_mem_nil
  | s :: l, k, t, h => by
    rcases List.mem_cons.mp h with rfl | h
    · intro i F hiF
      by_cases hs : s.2 = true
      · have hiF : (if s.2 = true then some (lsV (clo1 top k)) else none) = some (i, F) := hiF
        rw [if_pos hs] at hiF
        have := Option.some.inj hiF
        have h2 := lsV_ok (clo1_ok hv k)
        rw [this] at h2
        exact h2
      · have hiF : (if s.2 = true then some (lsV (clo1 top k)) else none) = some (i, F) := hiF
        rw [if_neg hs] at hiF
        cases hiF
    · exact clo_ok hv l (k + 1) t h
theorem clo_fr {top : List lT} {P : Int → Prop} : ∀ (b : List (Int × Bool)) (k : Int), (∀ s ∈ b, P s.1) → ∀ t ∈ clo top k b, P t.1
  | [], _, _, t, h => absurd h List.not_mem_nil
  | s :: l, k, hp, t, h => by
    rcases List.mem_cons.mp h with rfl | h
    · exact hp s (List.mem_cons_self ..)
    · exact clo_fr l (k + 1) (fun s hs => hp s (List.mem_cons_of_mem _ hs)) t h
theorem jn_close {β : Bool} {d : Nat} {h : jx_H} (hl : 49 ≤ h.length) {A0 B0 : Int → Prop} (hA0 : ∀ v, A0 v → 0 ≤ v ∧ v < 680) (hB0 : ∀ v, B0 v → 0 ≤ v ∧ v < 680) : ∀ (bs : List (List (Int × Bool))) (top : List lT) (nn cc : Int) (σ : mS) (c1 c2 c3 c4 c5 : Option Value), lvS σ bs → tpR σ (zA A0 nn) (zA B0 cc) (tot bs) top → (∀ t ∈ top, vokO t.2) → (∀ t ∈ top, 0 ≤ t.1 ∧ t.1 ≤ 400) → (∀ b ∈ bs, ∀ s ∈ b, 0 ≤ s.1 ∧ s.1 ≤ 400) → σ 36 0 = tot bs + top.length → tot bs + top.length ≤ 400 → σ 41 0 = (bs.length : Int) + 1 → bs.length < 15 → σ 11 4 = nn → σ 12 4 = cc → 0 ≤ nn → 0 ≤ cc → 170 * 4 + nn + tot bs ≤ 1740 → (bs = [] ∨ 170 * 4 + cc + (tot bs + top.length) ≤ 1740) →
    ∃ (τ : mS) (nn' cc' : Int), jx_r (jz β) jw_M (d + 1) 262 (0, [some (.ref 15), c1, c2, c3, c4, c5], [], ml_mk h σ) (ml_mk h (τ), .inl none) ∧ tpR τ (zA A0 nn') (zA B0 cc') 0 (clsA top bs) ∧ (∀ t ∈ clsA top bs, vokO t.2) ∧ τ 36 0 = (clsA top bs).length ∧ τ 41 0 = 1 ∧ τ 40 0 = 0 ∧ τ 11 4 = nn' ∧ τ 12 4 = cc' ∧ (nn ≤ nn' ∧ nn' ≤ nn + tot bs) ∧ (cc ≤ cc' ∧ (bs = [] → cc' = cc) ∧ cc' ≤ cc + (tot bs + top.length)) ∧ clG σ τ nn cc
  | [], top, nn, cc, σ, c1, c2, c3, c4, c5, hS, hT, hv, hfr, hfb, e36, h4, e41, hbl, e11, e12, hn0, hc0, hn1, hc1 => by
    have ht0 : tot [] = 0 := rfl
    rw [ht0] at hT e36 h4
    have e41 : σ 41 0 = 1 := by simpa using e41
    refine ⟨σ, nn, cc, ?_, hT, hv, by rw [e36]; show (0 : Int) + top.length = top.length; omega, e41, hS, e11, e12, ⟨by omega, by rw [ht0]; omega⟩, ⟨by omega, fun _ => rfl, by rw [ht0]; omega⟩, clG_refl σ nn cc⟩
    refine jr_1 jm_262 (show jw_cd cd_262 0 = some (.aload_n 0) by decide +kernel) rfl ?_
    refine jr_1 jm_262 (show jw_cd cd_262 1 = some (.getfield 283) by decide +kernel) (mg_i hl (e := 1) e41 (show jw_fld 34 283 16 = some 41 by decide +kernel) (by decide) (by decide)) ?_
    refine jr_1 jm_262 (show jw_cd cd_262 4 = some (.iconst 1) by decide +kernel) rfl ?_
    refine jr_1 jm_262 (show jw_cd cd_262 5 = some (.if_icmp .le 161) by decide +kernel) (mb_t (q := .le) (a := 1) (b := 1) (t := 166) (by show 1 ≤ 1; omega) ⟨by omega, by omega⟩ ⟨by omega, by omega⟩ (by decide) (by decide)) ?_
    exact jr_v jm_262 (show jw_cd cd_262 166 = some (.return_) by decide +kernel) rfl
  | b :: bs, top, nn, cc, σ, c1, c2, c3, c4, c5, hS, hT, hv, hfr, hfb, e36, h4, e41, hbl, e11, e12, hn0, hc0, hn1, hc1 => by
    obtain ⟨q, hq⟩ : ∃ q : Int, q = bs.length := ⟨_, rfl⟩
    have htc := tot_cons b bs
    have ht0 := tot_nn bs
    have hbl : bs.length + 1 < 15 := hbl
    obtain ⟨sp, hsp⟩ : ∃ sp, sp = tot (b :: bs) := ⟨_, rfl⟩
    obtain ⟨k, hk⟩ : ∃ k, k = tot bs := ⟨_, rfl⟩
    have e41 : σ 41 0 = q + 2 := by rw [e41, show (((b :: bs).length : Nat) : Int) = (bs.length : Int) + 1 by simp]; omega
    have e40 : σ 40 (q + 2 - 1) = sp := by rw [show q + 2 - 1 = (bs.length : Int) + 1 by omega, hsp]; exact hS.1
    have e40b : σ 40 (q + 2 - 1 - 1) = k := by rw [show q + 2 - 1 - 1 = (bs.length : Int) by omega, hk]; exact lvS_40 hS.2.2
    rw [← hsp] at hT e36 h4 hn1 hc1 htc
    rw [← hk] at htc
    have hc1 : 170 * 4 + cc + (sp + top.length) ≤ 1740 := by
      rcases hc1 with hc1 | hc1
      · cases hc1
      · exact hc1
    have hcg := cge_le top k
    have g1 := clG_41 σ nn cc (q + 2 - 1)
    obtain ⟨τ1, n1, cc1, d3, d4, d5, r1, r2, r3, r4, r5, r6, r7⟩ := jn_cl_mid (β := β) (d := d) (h := h) hl hA0 hB0 hv hfr (sp := sp) (sl := sp + top.length) rfl h4 b k nn cc (su σ 41 0 (q + 2 - 1)) c3 c4 c5 (tpR_fr (fun w x hx => mO_eq (fun f f1 f2 => su_row (by omega)) hx) top sp (fun j _ _ => ⟨su_nf (by decide), su_nf (by decide)⟩) hT) (bsR_fr b k (fun j _ _ => ⟨su_nf (by decide), su_nf (by decide)⟩) (by rw [hk]; exact hS.2.1)) ((su_nf (by decide)).trans e36) (by omega) (by omega) ((su_nf (by decide)).trans e11) ((su_nf (by decide)).trans e12) hn0 hc0 (by omega) (by omega)
    have hcl := clo_len top b k
    have g2 := clG_trans (clG_trans g1 (clG_F r2) (Int.le_refl nn) (Int.le_refl cc)) (clG_36 τ1 n1 cc1 sp) r5.1 r6.1
    obtain ⟨τ, n2, cc2, y1, y2, y3, y4, y5, y6, y7, y8, y9, y10, y11⟩ := jn_close (β := β) (d := d) (h := h) hl hA0 hB0 bs (clo top k b) n1 cc1 (su τ1 36 0 sp) (some (.int (Int32.ofInt (sp)))) (some (.int (Int32.ofInt (sp)))) d3 d4 d5 (lvS_fr bs (fun j hj => ⟨by rw [su_nf (by decide), r2.2.2.2.1 38 (by decide), su_nf (by decide)], by rw [su_nf (by decide), (r2.2.2.1 j (by omega)).2, su_nf (by decide)]⟩) (fun j _ => by rw [su_nf (by decide), r2.2.2.2.1 40 (by decide), su_nf (by decide)]) hS.2.2) (by rw [← hk]; exact tpR_fr (fun w x hx => mO_eq (fun f f1 f2 => su_row (by omega)) hx) _ k (fun j _ _ => ⟨su_nf (by decide), su_nf (by decide)⟩) r7) (clo_ok hv b k) (clo_fr (P := fun a => 0 ≤ a ∧ a ≤ 400) b k (fun s hs => hfb b (List.mem_cons_self ..) s hs)) (fun b' hb' => hfb b' (List.mem_cons_of_mem _ hb')) (by rw [su_eq, hcl]; omega) (by rw [hcl]; omega) (by rw [su_nf (by decide), r2.2.2.2.1 41 (by decide), su_eq]; omega) (by omega) ((su_nf (by decide)).trans r3) ((su_nf (by decide)).trans r4) (by omega) (by omega) (by omega) (Or.inr (by rw [hcl]; omega))
    rw [hcl] at y10
    have hcls : clsA top (b :: bs) = clsA (clo top k b) bs := by rw [hk]; rfl
    rw [hcls]
    refine ⟨τ, n2, cc2, ?_, y2, y3, y4, y5, y6, y7, y8, ⟨by omega, by omega⟩, ⟨by omega, (fun z => by cases z), by omega⟩, clG_trans g2 y11 r5.1 r6.1⟩
    refine jr_1 jm_262 (show jw_cd cd_262 0 = some (.aload_n 0) by decide +kernel) rfl ?_
    refine jr_1 jm_262 (show jw_cd cd_262 1 = some (.getfield 283) by decide +kernel) (mg_i hl (e := q + 2) e41 (show jw_fld 34 283 16 = some 41 by decide +kernel) (by decide) (by decide)) ?_
    refine jr_1 jm_262 (show jw_cd cd_262 4 = some (.iconst 1) by decide +kernel) rfl ?_
    refine jr_1 jm_262 (show jw_cd cd_262 5 = some (.if_icmp .le 161) by decide +kernel) (mb_f (q := .le) (a := q + 2) (b := 1) (by show ¬ (q + 2 ≤ 1); omega) ⟨by omega, by omega⟩ ⟨by omega, by omega⟩ (by decide)) ?_
    refine jr_1 jm_262 (show jw_cd cd_262 8 = some (.aload_n 0) by decide +kernel) rfl ?_
    refine jr_1 jm_262 (show jw_cd cd_262 9 = some (.dup) by decide +kernel) rfl ?_
    refine jr_1 jm_262 (show jw_cd cd_262 10 = some (.getfield 283) by decide +kernel) (mg_i hl (e := q + 2) e41 (show jw_fld 34 283 16 = some 41 by decide +kernel) (by decide) (by decide)) ?_
    refine jr_1 jm_262 (show jw_cd cd_262 13 = some (.iconst 1) by decide +kernel) rfl ?_
    refine jr_1 jm_262 (show jw_cd cd_262 14 = some (.isub) by decide +kernel) (mt_sub (c := q + 2 - 1) rfl) ?_
    refine jr_1 jm_262 (show jw_cd cd_262 15 = some (.putfield 283) by decide +kernel) (mp_i hl (x := q + 2 - 1) (show jw_fld 34 283 16 = some 41 by decide +kernel) (by decide) (by decide) (show jw_ft 16 41 = some .int by decide +kernel) (show jw_fm 34 16 41 = some false by decide +kernel)) ?_
    refine jr_1 jm_262 (show jw_cd cd_262 18 = some (.aload_n 0) by decide +kernel) rfl ?_
    refine jr_1 jm_262 (show jw_cd cd_262 19 = some (.getfield 98) by decide +kernel) (mg_a hl (a := 45) (show jw_fld 34 98 16 = some 40 by decide +kernel) (by decide) (by decide)) ?_
    refine jr_1 jm_262 (show jw_cd cd_262 22 = some (.aload_n 0) by decide +kernel) rfl ?_
    refine jr_1 jm_262 (show jw_cd cd_262 23 = some (.getfield 283) by decide +kernel) (mg_i hl (e := q + 2 - 1) (su_eq _ _ _ _) (show jw_fld 34 283 16 = some 41 by decide +kernel) (by decide) (by decide)) ?_
    refine jr_1 jm_262 (show jw_cd cd_262 26 = some (.iaload) by decide +kernel) (ma_i hl (i := q + 2 - 1) (e := sp) 40 (by omega) (by show _ < ((16 : Nat) : Int); omega) ((su_nf (by decide)).trans e40) (by decide) (by decide) (by decide)) ?_
    refine jr_1 jm_262 (F2 := (28, [some (.ref 15), some (.int (Int32.ofInt (sp))), c2, c3, c4, c5], [], ml_mk h (su σ 41 (0) (q + 2 - 1)))) (show jw_cd cd_262 27 = some (.istore_n 1) by decide +kernel) rfl ?_
    refine jr_1 jm_262 (show jw_cd cd_262 28 = some (.aload_n 0) by decide +kernel) rfl ?_
    refine jr_1 jm_262 (show jw_cd cd_262 29 = some (.getfield 98) by decide +kernel) (mg_a hl (a := 45) (show jw_fld 34 98 16 = some 40 by decide +kernel) (by decide) (by decide)) ?_
    refine jr_1 jm_262 (show jw_cd cd_262 32 = some (.aload_n 0) by decide +kernel) rfl ?_
    refine jr_1 jm_262 (show jw_cd cd_262 33 = some (.getfield 283) by decide +kernel) (mg_i hl (e := q + 2 - 1) (su_eq _ _ _ _) (show jw_fld 34 283 16 = some 41 by decide +kernel) (by decide) (by decide)) ?_
    refine jr_1 jm_262 (show jw_cd cd_262 36 = some (.iconst 1) by decide +kernel) rfl ?_
    refine jr_1 jm_262 (show jw_cd cd_262 37 = some (.isub) by decide +kernel) (mt_sub (c := q + 2 - 1 - 1) rfl) ?_
    refine jr_1 jm_262 (show jw_cd cd_262 38 = some (.iaload) by decide +kernel) (ma_i hl (i := q + 2 - 1 - 1) (e := k) 40 (by omega) (by show _ < ((16 : Nat) : Int); omega) ((su_nf (by decide)).trans e40b) (by decide) (by decide) (by decide)) ?_
    refine jr_1 jm_262 (F2 := (40, [some (.ref 15), some (.int (Int32.ofInt (sp))), some (.int (Int32.ofInt (k))), c3, c4, c5], [], ml_mk h (su σ 41 (0) (q + 2 - 1)))) (show jw_cd cd_262 39 = some (.istore_n 2) by decide +kernel) rfl ?_
    refine r1 _ ?_
    refine jr_1 jm_262 (show jw_cd cd_262 158 = some (.aload_n 0) by decide +kernel) rfl ?_
    refine jr_1 jm_262 (show jw_cd cd_262 159 = some (.iload_n 1) by decide +kernel) rfl ?_
    refine jr_1 jm_262 (show jw_cd cd_262 160 = some (.putfield 264) by decide +kernel) (mp_i hl (x := sp) (show jw_fld 34 264 16 = some 36 by decide +kernel) (by decide) (by decide) (show jw_ft 16 36 = some .int by decide +kernel) (show jw_fm 34 16 36 = some false by decide +kernel)) ?_
    refine jr_1 jm_262 (show jw_cd cd_262 163 = some (.goto (-163)) by decide +kernel) (ju_go (t := 0) (by decide)) ?_
    exact y1
