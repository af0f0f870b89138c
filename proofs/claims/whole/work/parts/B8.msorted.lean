/-! ===== the model's sorted (printed by program: gen41.py) ===== -/
abbrev eT : Type := (tI × FT) × (tI × FT)
def ent (σ : mS) (A B : Int → Prop) (τ : mS) (k : Int) (e : eT) : Prop := mV σ A B (τ 44 k) e.1.1 e.1.2 ∧ mV σ A B (τ 43 k) e.2.1 e.2.2
def oA (σ : mS) (A B : Int → Prop) (τ : mS) : Int → List eT → Prop
  | _, [] => True
  | k, e :: l => ent σ A B τ k e ∧ oA σ A B τ (k + 1) l
def dn (σ : mS) (A B : Int → Prop) (τ : mS) : List eT → Int → Prop
  | [], k => k = 0
  | e :: R, k => ent σ A B τ (k - 1) e ∧ dn σ A B τ R (k - 1)
/-- behind those that are not above it; the last one first -/
def insR (e : eT) : List eT → List eT
  | [] => [e]
  | x :: R => if abv x.1.1 e.1.1 = true then x :: insR e R else e :: x :: R
def eok (e : eT) : Prop := iok e.1.1
theorem dn_len {σ τ : mS} {A B : Int → Prop} : ∀ (R : List eT) (k : Int), dn σ A B τ R k → k = R.length
  | [], k, h => h
  | e :: R, k, h => by
    have := dn_len R (k - 1) h.2
    simp
    omega
theorem dn_upd {σ τ τ' : mS} {A B : Int → Prop} : ∀ (R : List eT) (k : Int), (∀ t, t < k → τ' 43 t = τ 43 t ∧ τ' 44 t = τ 44 t) → dn σ A B τ R k → dn σ A B τ' R k
  | [], _, _, h => h
  | e :: R, k, hu, h => by
    obtain ⟨h1, h2⟩ := hu (k - 1) (by omega)
    refine ⟨?_, dn_upd R (k - 1) (fun t ht => hu t (by omega)) h.2⟩
    unfold ent
    rw [h1, h2]
    exact h.1
theorem oA_upd {σ τ τ' : mS} {A B : Int → Prop} : ∀ (l : List eT) (k : Int), (∀ t, k ≤ t → τ' 43 t = τ 43 t ∧ τ' 44 t = τ 44 t) → oA σ A B τ k l → oA σ A B τ' k l
  | [], _, _, _ => trivial
  | e :: l, k, hu, h => by
    obtain ⟨h1, h2⟩ := hu k (Int.le_refl k)
    refine ⟨?_, oA_upd l (k + 1) (fun t ht => hu t (by omega)) h.2⟩
    unfold ent
    rw [h1, h2]
    exact h.1
theorem dn_of {σ τ : mS} {A B : Int → Prop} : ∀ (L Q : List eT) (k : Int), dn σ A B τ Q k → oA σ A B τ k L → dn σ A B τ (L.reverse ++ Q) (k + L.length)
  | [], Q, k, h, _ => by
    show dn σ A B τ Q (k + ((0 : Nat) : Int))
    rw [show k + ((0 : Nat) : Int) = k by omega]
    exact h
  | e :: L, Q, k, h, hl => by
    have key := dn_of L (e :: Q) (k + 1) ⟨by rw [show k + 1 - 1 = k by omega]; exact hl.1, by rw [show k + 1 - 1 = k by omega]; exact h⟩ hl.2
    rw [List.reverse_cons, List.append_assoc, show k + ((e :: L).length : Int) = k + 1 + (L.length : Int) by simp; omega]
    exact key
theorem dn_qV {σ τ : mS} {A B : Int → Prop} : ∀ (R : List eT) (k : Int), dn σ A B τ R k → qV σ A B (τ 43) 0 (R.reverse.map fun e => e.2)
  | [], _, _ => trivial
  | e :: R, k, h => by
    rw [List.reverse_cons, List.map_append]
    refine qV_app _ _ 0 (dn_qV R (k - 1) h.2) ?_
    have hk := dn_len R (k - 1) h.2
    rw [show (0 : Int) + ((R.reverse.map fun e => e.2).length : Int) = k - 1 by simp; omega]
    exact ⟨h.1.2, trivial⟩
theorem jn_sd_rank {β : Bool} {d : Nat} {h : jx_H} {σ : mS} (hl : 49 ≤ h.length) {A B : Int → Prop} (hA : mIx A) (hB : mIx B) {v kk x : Int} {s : List Int} (hs : tx s) {i : tI} {c : FT} (hi : iok i) (hc : fwf c) (hx : 0 ≤ x ∧ x < 1740) (hV : mV σ A B (σ 8 x) i c) {c6 c7 : Option Value} : ∃ w, (∀ res, jx_r (jz β) jw_M (d + 1) 257 (47, [some (.ref 15), some (.int (Int32.ofInt (v))), some (.long (Int64.ofInt (pk s))), none, some (.int (Int32.ofInt (kk))), some (.int (Int32.ofInt (x))), some (.int (Int32.ofInt (w))), c7], [], ml_mk h σ) res → jx_r (jz β) jw_M (d + 1) 257 (17, [some (.ref 15), some (.int (Int32.ofInt (v))), some (.long (Int64.ofInt (pk s))), none, some (.int (Int32.ofInt (kk))), some (.int (Int32.ofInt (x))), c6, c7], [], ml_mk h σ) res) ∧ mO σ A B w (vrank s i c) := by
  obtain ⟨x0, x1⟩ := hx
  by_cases h0 : pk s = 0
  · refine ⟨σ 8 x, fun res kq => ?_, ?_⟩
    · skip
      refine jr_1 jm_257 (show jw_cd cd_257 17 = some (.lload_n 2) by decide +kernel) rfl ?_
      refine jr_1 jm_257 (F2 := (19, [some (.ref 15), some (.int (Int32.ofInt (v))), some (.long (Int64.ofInt (pk s))), none, some (.int (Int32.ofInt (kk))), some (.int (Int32.ofInt (x))), c6, c7], [.long (Int64.ofInt (0)), .long (Int64.ofInt (pk s))], ml_mk h σ)) (show jw_cd cd_257 18 = some (.lconst 0) by decide +kernel) rfl ?_
      refine jr_1 jm_257 (show jw_cd cd_257 19 = some (.lcmp) by decide +kernel) (mt_cmp (r := 0) ⟨by have := (pk_b hs).1; omega, by have := (pk_b hs).2; omega⟩ ⟨by decide, by decide⟩ (by rw [if_neg (by omega), if_pos h0])) ?_
      refine jr_1 jm_257 (show jw_cd cd_257 20 = some (.ifCond .ne 13) by decide +kernel) (mz_f (q := .ne) (a := 0) (by show ¬ (¬ (0 = 0)); omega) ⟨by omega, by omega⟩ (by decide)) ?_
      refine jr_1 jm_257 (show jw_cd cd_257 23 = some (.aload_n 0) by decide +kernel) rfl ?_
      refine jr_1 jm_257 (show jw_cd cd_257 24 = some (.getfield 29) by decide +kernel) (mg_a hl (a := 22) (show jw_fld 34 29 16 = some 8 by decide +kernel) (by decide) (by decide)) ?_
      refine jr_1 jm_257 (show jw_cd cd_257 27 = some (.iload 5) by decide +kernel) rfl ?_
      refine jr_1 jm_257 (show jw_cd cd_257 29 = some (.iaload) by decide +kernel) (ma_i hl (i := x) (e := σ 8 (x)) 8 (by omega) (by show _ < ((1740 : Nat) : Int); omega) rfl (by decide) (by decide) (by decide)) ?_
      refine jr_1 jm_257 (show jw_cd cd_257 30 = some (.goto 15) by decide +kernel) (ju_go (t := 45) (by decide)) ?_
      refine jr_1 jm_257 (F2 := (47, [some (.ref 15), some (.int (Int32.ofInt (v))), some (.long (Int64.ofInt (pk s))), none, some (.int (Int32.ofInt (kk))), some (.int (Int32.ofInt (x))), some (.int (Int32.ofInt (σ 8 (x)))), c7], [], ml_mk h σ)) (show jw_cd cd_257 45 = some (.istore 6) by decide +kernel) rfl ?_
      exact kq
    · rw [show vrank s i c = some (i, c) from if_pos ((pk_0 hs).mp h0)]
      exact hV
  · obtain ⟨w, r1, r2⟩ := jn_child (β := β) (d := d) hl hA hB hs ⟨by have := hi.1; omega, by have := hi.2.1; omega⟩ (fwf_ok c hc) hV
    refine ⟨w, fun res kq => ?_, ?_⟩
    · skip
      refine jr_1 jm_257 (show jw_cd cd_257 17 = some (.lload_n 2) by decide +kernel) rfl ?_
      refine jr_1 jm_257 (F2 := (19, [some (.ref 15), some (.int (Int32.ofInt (v))), some (.long (Int64.ofInt (pk s))), none, some (.int (Int32.ofInt (kk))), some (.int (Int32.ofInt (x))), c6, c7], [.long (Int64.ofInt (0)), .long (Int64.ofInt (pk s))], ml_mk h σ)) (show jw_cd cd_257 18 = some (.lconst 0) by decide +kernel) rfl ?_
      refine jr_1 jm_257 (show jw_cd cd_257 19 = some (.lcmp) by decide +kernel) (mt_cmp (r := 1) ⟨by have := (pk_b hs).1; omega, by have := (pk_b hs).2; omega⟩ ⟨by decide, by decide⟩ (by rw [if_neg (by have := (pk_b hs).1; omega), if_neg h0])) ?_
      refine jr_1 jm_257 (show jw_cd cd_257 20 = some (.ifCond .ne 13) by decide +kernel) (mz_t (q := .ne) (a := 1) (t := 33) (by show ¬ (1 = 0); omega) ⟨by omega, by omega⟩ (by decide) (by decide)) ?_
      refine jr_1 jm_257 (show jw_cd cd_257 33 = some (.aload_n 0) by decide +kernel) rfl ?_
      refine jr_1 jm_257 (show jw_cd cd_257 34 = some (.aload_n 0) by decide +kernel) rfl ?_
      refine jr_1 jm_257 (show jw_cd cd_257 35 = some (.getfield 29) by decide +kernel) (mg_a hl (a := 22) (show jw_fld 34 29 16 = some 8 by decide +kernel) (by decide) (by decide)) ?_
      refine jr_1 jm_257 (show jw_cd cd_257 38 = some (.iload 5) by decide +kernel) rfl ?_
      refine jr_1 jm_257 (show jw_cd cd_257 40 = some (.iaload) by decide +kernel) (ma_i hl (i := x) (e := σ 8 (x)) 8 (by omega) (by show _ < ((1740 : Nat) : Int); omega) rfl (by decide) (by decide) (by decide)) ?_
      refine jr_1 jm_257 (show jw_cd cd_257 41 = some (.lload_n 2) by decide +kernel) rfl ?_
      refine jr_c jm_257 (show jw_cd cd_257 42 = some (.invokevirtual 132) by decide +kernel) (mc_v hl (n := 2) (m2 := 256) (bs := [.int (Int32.ofInt (σ 8 (x))), .long (Int64.ofInt (pk s))]) (r := []) (show jw_find jw_cvT 34 132 = some (2, [(16, 256)]) by decide +kernel) (by decide) rfl rfl rfl) jm_256 ⟨Nat.le_of_ble_eq_true rfl, by decide⟩ r1 ?_
      refine jr_1 jm_257 (F2 := (47, [some (.ref 15), some (.int (Int32.ofInt (v))), some (.long (Int64.ofInt (pk s))), none, some (.int (Int32.ofInt (kk))), some (.int (Int32.ofInt (x))), some (.int (Int32.ofInt (w))), c7], [], ml_mk h σ)) (show jw_cd cd_257 45 = some (.istore 6) by decide +kernel) rfl ?_
      exact kq
    · rw [show vrank s i c = vget s i c from if_neg (fun e => h0 ((pk_0 hs).mpr e))]
      exact r2
theorem jn_sd_in {β : Bool} {d : Nat} {h : jx_H} {σ : mS} (hl : 49 ≤ h.length) {A B : Int → Prop} (hA : mIx A) {v m x w : Int} {s : List Int} {e : eT} (hm : m < 400) (he : eok e) (hw : mV σ A B w e.1.1 e.1.2) : ∀ (R : List eT) (q : Int) (P : List eT) (τ : mS), (∀ y ∈ R, eok y) → mEq [43, 44] σ τ → dn σ A B τ R q → oA σ A B τ (q + 1) P → q + P.length = m → ∃ (τ' : mS) (q' : Int) (R1 R2 : List eT), insR e R = R1 ++ e :: R2 ∧ (∀ res, jx_r (jz β) jw_M (d + 1 + 1) 257 (112, [some (.ref 15), some (.int (Int32.ofInt (v))), some (.long (Int64.ofInt (pk s))), none, some (.int (Int32.ofInt (m))), some (.int (Int32.ofInt (x))), some (.int (Int32.ofInt (w))), some (.int (Int32.ofInt (q')))], [], ml_mk h τ') res → jx_r (jz β) jw_M (d + 1 + 1) 257 (51, [some (.ref 15), some (.int (Int32.ofInt (v))), some (.long (Int64.ofInt (pk s))), none, some (.int (Int32.ofInt (m))), some (.int (Int32.ofInt (x))), some (.int (Int32.ofInt (w))), some (.int (Int32.ofInt (q)))], [], ml_mk h τ) res) ∧ mEq [43, 44] σ τ' ∧ dn σ A B τ' R2 q' ∧ oA σ A B τ' (q' + 1) (R1.reverse ++ P) ∧ q' + R1.length + P.length = m
  | [], q, P, τ, hR, hq, hd, hP, hm2 => by
    have hd : q = 0 := hd
    subst hd
    refine ⟨τ, 0, [], [], rfl, fun res kk => ?_, hq, rfl, hP, by simp; simp at hm2; exact hm2⟩
    refine jr_1 jm_257 (show jw_cd cd_257 51 = some (.iload 7) by decide +kernel) rfl ?_
    refine jr_1 jm_257 (show jw_cd cd_257 53 = some (.ifCond .le 59) by decide +kernel) (mz_t (q := .le) (a := 0) (t := 112) (by show 0 ≤ 0; omega) ⟨by omega, by omega⟩ (by decide) (by decide)) ?_
    exact kk
  | y :: R, q, P, τ, hR, hq, hd, hP, hm2 => by
    have hlen := dn_len (y :: R) q hd
    have hq1 : 1 ≤ q := by simp at hlen; omega
    obtain ⟨⟨hy1, hy2⟩, hd2⟩ := hd
    obtain ⟨y1, y2, m2x, t1x, t2x⟩ := hR y List.mem_cons_self
    obtain ⟨e1, e2, m2w, t1w, t2w⟩ := id he
    have m1x : mr y.1.1.1 := ⟨by omega, by omega⟩
    have hfr : ∀ {w : Int} {i : tI} {c : FT}, mV σ A B w i c → mV τ A B w i c := fun h => mV_fr (fun f v f1 f2 _ => by rw [hq f (by simp; omega)]) (fun f x f1 f2 _ => by rw [hq f (by simp; omega)]) (fun _ h => h) (fun _ h => h) h
    have hVx := hfr hy1
    have hVw := hfr hw
    by_cases hab : abv y.1.1 e.1.1 = true
    · have hT : mEq [43, 44] σ (su (su τ 44 (q) (τ 44 (q - 1))) 43 (q) (τ 43 (q - 1))) := mEq_su (mEq_su hq (by decide)) (by decide)
      have u43 : ∀ t, (su (su τ 44 (q) (τ 44 (q - 1))) 43 (q) (τ 43 (q - 1))) 43 t = if t = q then τ 43 (q - 1) else τ 43 t := fun t => by
        by_cases ht : t = q
        · rw [if_pos ht, ht, su_eq]
        · rw [if_neg ht, su_ni ht, su_nf (by decide)]
      have u44 : ∀ t, (su (su τ 44 (q) (τ 44 (q - 1))) 43 (q) (τ 43 (q - 1))) 44 t = if t = q then τ 44 (q - 1) else τ 44 t := fun t => by
        rw [su_nf (by decide)]
        by_cases ht : t = q
        · rw [if_pos ht, ht, su_eq]
        · rw [if_neg ht, su_ni ht]
      obtain ⟨τ', q', R1, R2, r0, r1, r2, r3, r4, r5⟩ := jn_sd_in (β := β) (d := d) (v := v) (x := x) (s := s) hl hA hm he hw R (q - 1) (y :: P) (su (su τ 44 (q) (τ 44 (q - 1))) 43 (q) (τ 43 (q - 1))) (fun z hz => hR z (List.mem_cons_of_mem _ hz)) hT (dn_upd R (q - 1) (fun t ht => by rw [u43, u44, if_neg (by omega), if_neg (by omega)]; exact ⟨rfl, rfl⟩) hd2) (by
        rw [show q - 1 + 1 = q by omega]
        refine ⟨?_, oA_upd P (q + 1) (fun t ht => by rw [u43, u44, if_neg (by omega), if_neg (by omega)]; exact ⟨rfl, rfl⟩) hP⟩
        unfold ent
        rw [u43, u44, if_pos rfl, if_pos rfl]
        exact ⟨hy1, hy2⟩) (by simp; omega)
      refine ⟨τ', q', y :: R1, R2, ?_, fun res kk => ?_, r2, r3, ?_, ?_⟩
      · show (if abv y.1.1 e.1.1 = true then y :: insR e R else e :: y :: R) = _
        rw [if_pos hab, r0]
        rfl
      · skip
        refine jr_1 jm_257 (show jw_cd cd_257 51 = some (.iload 7) by decide +kernel) rfl ?_
        refine jr_1 jm_257 (show jw_cd cd_257 53 = some (.ifCond .le 59) by decide +kernel) (mz_f (q := .le) (a := q) (by show ¬ (q ≤ 0); omega) ⟨by omega, by omega⟩ (by decide)) ?_
        refine jr_1 jm_257 (show jw_cd cd_257 56 = some (.aload_n 0) by decide +kernel) rfl ?_
        refine jr_1 jm_257 (show jw_cd cd_257 57 = some (.aload_n 0) by decide +kernel) rfl ?_
        refine jr_1 jm_257 (show jw_cd cd_257 58 = some (.getfield 104) by decide +kernel) (mg_a hl (a := 47) (show jw_fld 34 104 16 = some 44 by decide +kernel) (by decide) (by decide)) ?_
        refine jr_1 jm_257 (show jw_cd cd_257 61 = some (.iload 7) by decide +kernel) rfl ?_
        refine jr_1 jm_257 (show jw_cd cd_257 63 = some (.iconst 1) by decide +kernel) rfl ?_
        refine jr_1 jm_257 (show jw_cd cd_257 64 = some (.isub) by decide +kernel) (mt_sub (c := q - 1) rfl) ?_
        refine jr_1 jm_257 (show jw_cd cd_257 65 = some (.iaload) by decide +kernel) (ma_i hl (i := q - 1) (e := τ 44 (q - 1)) 44 (by omega) (by show _ < ((400 : Nat) : Int); omega) rfl (by decide) (by decide) (by decide)) ?_
        refine jr_1 jm_257 (show jw_cd cd_257 66 = some (.iload 6) by decide +kernel) rfl ?_
        refine jr_c jm_257 (show jw_cd cd_257 68 = some (.invokevirtual 308) by decide +kernel) (mc_v hl (n := 2) (m2 := 258) (bs := [.int (Int32.ofInt (τ 44 (q - 1))), .int (Int32.ofInt (w))]) (r := []) (show jw_find jw_cvT 34 308 = some (2, [(16, 258)]) by decide +kernel) (by decide) rfl rfl rfl) jm_258 ⟨Nat.le_of_ble_eq_true rfl, by decide⟩ (by have e := jn_above (β := β) (d := d + 1) (σ := τ) hl hA hVx hVw m1x m2x m2w t1x t1w; rw [if_pos hab] at e; exact e) ?_
        refine jr_1 jm_257 (show jw_cd cd_257 71 = some (.ifCond .eq 41) by decide +kernel) (mz_f (q := .eq) (a := 1) (by show ¬ (1 = 0); omega) ⟨by omega, by omega⟩ (by decide)) ?_
        refine jr_1 jm_257 (show jw_cd cd_257 74 = some (.aload_n 0) by decide +kernel) rfl ?_
        refine jr_1 jm_257 (show jw_cd cd_257 75 = some (.getfield 104) by decide +kernel) (mg_a hl (a := 47) (show jw_fld 34 104 16 = some 44 by decide +kernel) (by decide) (by decide)) ?_
        refine jr_1 jm_257 (show jw_cd cd_257 78 = some (.iload 7) by decide +kernel) rfl ?_
        refine jr_1 jm_257 (show jw_cd cd_257 80 = some (.aload_n 0) by decide +kernel) rfl ?_
        refine jr_1 jm_257 (show jw_cd cd_257 81 = some (.getfield 104) by decide +kernel) (mg_a hl (a := 47) (show jw_fld 34 104 16 = some 44 by decide +kernel) (by decide) (by decide)) ?_
        refine jr_1 jm_257 (show jw_cd cd_257 84 = some (.iload 7) by decide +kernel) rfl ?_
        refine jr_1 jm_257 (show jw_cd cd_257 86 = some (.iconst 1) by decide +kernel) rfl ?_
        refine jr_1 jm_257 (show jw_cd cd_257 87 = some (.isub) by decide +kernel) (mt_sub (c := q - 1) rfl) ?_
        refine jr_1 jm_257 (show jw_cd cd_257 88 = some (.iaload) by decide +kernel) (ma_i hl (i := q - 1) (e := τ 44 (q - 1)) 44 (by omega) (by show _ < ((400 : Nat) : Int); omega) rfl (by decide) (by decide) (by decide)) ?_
        refine jr_1 jm_257 (show jw_cd cd_257 89 = some (.iastore) by decide +kernel) (ms_i hl (i := q) (x := τ 44 (q - 1)) 44 (by omega) (by show _ < ((400 : Nat) : Int); omega) (by decide) (by decide) (by decide)) ?_
        refine jr_1 jm_257 (show jw_cd cd_257 90 = some (.aload_n 0) by decide +kernel) rfl ?_
        refine jr_1 jm_257 (show jw_cd cd_257 91 = some (.getfield 101) by decide +kernel) (mg_a hl (a := 46) (show jw_fld 34 101 16 = some 43 by decide +kernel) (by decide) (by decide)) ?_
        refine jr_1 jm_257 (show jw_cd cd_257 94 = some (.iload 7) by decide +kernel) rfl ?_
        refine jr_1 jm_257 (show jw_cd cd_257 96 = some (.aload_n 0) by decide +kernel) rfl ?_
        refine jr_1 jm_257 (show jw_cd cd_257 97 = some (.getfield 101) by decide +kernel) (mg_a hl (a := 46) (show jw_fld 34 101 16 = some 43 by decide +kernel) (by decide) (by decide)) ?_
        refine jr_1 jm_257 (show jw_cd cd_257 100 = some (.iload 7) by decide +kernel) rfl ?_
        refine jr_1 jm_257 (show jw_cd cd_257 102 = some (.iconst 1) by decide +kernel) rfl ?_
        refine jr_1 jm_257 (show jw_cd cd_257 103 = some (.isub) by decide +kernel) (mt_sub (c := q - 1) rfl) ?_
        refine jr_1 jm_257 (show jw_cd cd_257 104 = some (.iaload) by decide +kernel) (ma_i hl (i := q - 1) (e := τ 43 (q - 1)) 43 (by omega) (by show _ < ((400 : Nat) : Int); omega) (su_nf (by decide)) (by decide) (by decide) (by decide)) ?_
        refine jr_1 jm_257 (show jw_cd cd_257 105 = some (.iastore) by decide +kernel) (ms_i hl (i := q) (x := τ 43 (q - 1)) 43 (by omega) (by show _ < ((400 : Nat) : Int); omega) (by decide) (by decide) (by decide)) ?_
        refine jr_1 jm_257 (F2 := (109, [some (.ref 15), some (.int (Int32.ofInt (v))), some (.long (Int64.ofInt (pk s))), none, some (.int (Int32.ofInt (m))), some (.int (Int32.ofInt (x))), some (.int (Int32.ofInt (w))), some (.int (Int32.ofInt (q - 1)))], [], ml_mk h (su (su τ 44 (q) (τ 44 (q - 1))) 43 (q) (τ 43 (q - 1))))) (show jw_cd cd_257 106 = some (.iinc 7 (-1)) by decide +kernel) (mt_inc (a := q) (c := q - 1) rfl (by omega) rfl) ?_
        refine jr_1 jm_257 (show jw_cd cd_257 109 = some (.goto (-58)) by decide +kernel) (ju_go (t := 51) (by decide)) ?_
        exact r1 res kk
      · rw [List.reverse_cons, List.append_assoc]
        exact r4
      · simp at r5 ⊢
        omega
    · refine ⟨τ, q, [], y :: R, ?_, fun res kk => ?_, hq, ⟨⟨hy1, hy2⟩, hd2⟩, hP, by simp; exact hm2⟩
      · show (if abv y.1.1 e.1.1 = true then y :: insR e R else e :: y :: R) = _
        rw [if_neg hab]
        rfl
      · skip
        refine jr_1 jm_257 (show jw_cd cd_257 51 = some (.iload 7) by decide +kernel) rfl ?_
        refine jr_1 jm_257 (show jw_cd cd_257 53 = some (.ifCond .le 59) by decide +kernel) (mz_f (q := .le) (a := q) (by show ¬ (q ≤ 0); omega) ⟨by omega, by omega⟩ (by decide)) ?_
        refine jr_1 jm_257 (show jw_cd cd_257 56 = some (.aload_n 0) by decide +kernel) rfl ?_
        refine jr_1 jm_257 (show jw_cd cd_257 57 = some (.aload_n 0) by decide +kernel) rfl ?_
        refine jr_1 jm_257 (show jw_cd cd_257 58 = some (.getfield 104) by decide +kernel) (mg_a hl (a := 47) (show jw_fld 34 104 16 = some 44 by decide +kernel) (by decide) (by decide)) ?_
        refine jr_1 jm_257 (show jw_cd cd_257 61 = some (.iload 7) by decide +kernel) rfl ?_
        refine jr_1 jm_257 (show jw_cd cd_257 63 = some (.iconst 1) by decide +kernel) rfl ?_
        refine jr_1 jm_257 (show jw_cd cd_257 64 = some (.isub) by decide +kernel) (mt_sub (c := q - 1) rfl) ?_
        refine jr_1 jm_257 (show jw_cd cd_257 65 = some (.iaload) by decide +kernel) (ma_i hl (i := q - 1) (e := τ 44 (q - 1)) 44 (by omega) (by show _ < ((400 : Nat) : Int); omega) rfl (by decide) (by decide) (by decide)) ?_
        refine jr_1 jm_257 (show jw_cd cd_257 66 = some (.iload 6) by decide +kernel) rfl ?_
        refine jr_c jm_257 (show jw_cd cd_257 68 = some (.invokevirtual 308) by decide +kernel) (mc_v hl (n := 2) (m2 := 258) (bs := [.int (Int32.ofInt (τ 44 (q - 1))), .int (Int32.ofInt (w))]) (r := []) (show jw_find jw_cvT 34 308 = some (2, [(16, 258)]) by decide +kernel) (by decide) rfl rfl rfl) jm_258 ⟨Nat.le_of_ble_eq_true rfl, by decide⟩ (by have e := jn_above (β := β) (d := d + 1) (σ := τ) hl hA hVx hVw m1x m2x m2w t1x t1w; rw [if_neg hab] at e; exact e) ?_
        refine jr_1 jm_257 (show jw_cd cd_257 71 = some (.ifCond .eq 41) by decide +kernel) (mz_t (q := .eq) (a := 0) (t := 112) (by show 0 = 0; omega) ⟨by omega, by omega⟩ (by decide) (by decide)) ?_
        exact kk
theorem insR_len (e : eT) : ∀ R : List eT, (insR e R).length = R.length + 1
  | [] => rfl
  | x :: R => by
    unfold insR
    split
    · show (insR e R).length + 1 = R.length + 1 + 1
      rw [insR_len e R]
    · rfl
theorem insR_mem {e : eT} : ∀ R : List eT, ∀ y ∈ insR e R, y = e ∨ y ∈ R
  | [], y, h => Or.inl (List.mem_singleton.mp h)
  | x :: R, y, h => by
    unfold insR at h
    split at h
    · rcases List.mem_cons.mp h with rfl | h
      · exact Or.inr List.mem_cons_self
      · exact (insR_mem R y h).imp id (List.mem_cons_of_mem _)
    · rcases List.mem_cons.mp h with rfl | h
      · exact Or.inl rfl
      · exact Or.inr h
def allR (s : List Int) : FT → Prop
  | .leaf => True
  | .inner _ i _ c n => (vrank s i c).isSome = true ∧ allR s n
def fsorted (s : List Int) : FT → List eT → List eT
  | .leaf, R => R
  | .inner _ i _ c n, R => match vrank s i c with
    | some r => fsorted s n (insR (r, (i, c)) R)
    | none => fsorted s n R
theorem jn_sd_out {β : Bool} {d : Nat} {h : jx_H} {σ : mS} (hl : 49 ≤ h.length) {A B : Int → Prop} (hA : mIx A) (hB : mIx B) {v : Int} {s : List Int} (hs : tx s) : ∀ (F : FT) (x m : Int) (R : List eT) (τ : mS) (c6 c7 : Option Value), fwf F → allR s F → mF σ A B F x → (∀ y ∈ R, eok y) → mEq [43, 44] σ τ → dn σ A B τ R m → m + fsz F ≤ 400 → ∃ (τ' : mS) (c6' c7' : Option Value), (∀ res, jx_r (jz β) jw_M (d + 1 + 1) 257 (150, [some (.ref 15), some (.int (Int32.ofInt (v))), some (.long (Int64.ofInt (pk s))), none, some (.int (Int32.ofInt (m + (fsz F : Int)))), some (.int (Int32.ofInt (-1))), c6', c7'], [], ml_mk h τ') res → jx_r (jz β) jw_M (d + 1 + 1) 257 (11, [some (.ref 15), some (.int (Int32.ofInt (v))), some (.long (Int64.ofInt (pk s))), none, some (.int (Int32.ofInt (m))), some (.int (Int32.ofInt (x))), c6, c7], [], ml_mk h τ) res) ∧ mEq [43, 44] σ τ' ∧ dn σ A B τ' (fsorted s F R) (m + fsz F)
  | .leaf, x, m, R, τ, c6, c7, _, _, hx, _, hq, hd, hs => by
    have hx : x = -1 := hx
    subst hx
    have e0 : m + ((fsz .leaf : Nat) : Int) = m := Int.add_zero m
    refine ⟨τ, c6, c7, fun res kk => ?_, hq, by rw [e0]; exact hd⟩
    rw [e0] at kk
    have hm := dn_len R m hd
    refine jr_1 jm_257 (show jw_cd cd_257 11 = some (.iload 5) by decide +kernel) rfl ?_
    refine jr_1 jm_257 (show jw_cd cd_257 13 = some (.iconst (-1)) by decide +kernel) rfl ?_
    refine jr_1 jm_257 (show jw_cd cd_257 14 = some (.if_icmp .eq 136) by decide +kernel) (mb_t (q := .eq) (a := -1) (b := -1) (t := 150) (by show -1 = -1; omega) ⟨by omega, by omega⟩ ⟨by omega, by omega⟩ (by decide) (by decide)) ?_
    exact kk
  | .inner s0 i u0 c n, x, m, R, τ, c6, c7, hw, hr, hx, hR, hq, hd, hsz => by
    obtain ⟨b1, a1, hkey, hN, hc, hn⟩ := hx
    obtain ⟨hi, wc, wn⟩ := hw
    obtain ⟨hr1, hr2⟩ := hr
    have bx := hB x b1
    have hsz : m + ((fsz n + 1 : Nat) : Int) ≤ 400 := hsz
    have es : m + ((fsz (.inner s0 i u0 c n) : Nat) : Int) = m + 1 + (fsz n : Int) := by show m + ((fsz n + 1 : Nat) : Int) = _; omega
    have hm := dn_len R m hd
    cases hv : vrank s i c with
    | none => rw [hv] at hr1; cases hr1
    | some r =>
      have hfr : ∀ {w : Int} {i : tI} {c : FT}, mV σ A B w i c → mV τ A B w i c := fun h => mV_fr (fun f v f1 f2 _ => by rw [hq f (by simp; omega)]) (fun f x f1 f2 _ => by rw [hq f (by simp; omega)]) (fun _ h => h) (fun _ h => h) h
      have e8 : τ 8 x = σ 8 x := congrFun (hq 8 (by decide)) x
      obtain ⟨w, k1, k2⟩ := jn_sd_rank (β := β) (d := d + 1) (σ := τ) (v := v) (kk := m) (c6 := c6) (c7 := c7) hl hA hB hs hi wc bx (by rw [e8]; exact hfr ⟨a1, hN, hc⟩)
      rw [hv] at k2
      obtain ⟨j, E⟩ := r
      have k2 : mV τ A B w j E := k2
      have k3 : mV σ A B w j E := mV_fr (fun f v f1 f2 _ => by rw [hq f (by simp; omega)]) (fun f x f1 f2 _ => by rw [hq f (by simp; omega)]) (fun _ h => h) (fun _ h => h) k2
      obtain ⟨hj, hE⟩ := vrank_ok hi wc hv
      obtain ⟨τ', q', R1, R2, r0, r1, r2, r3, r4, r5⟩ := jn_sd_in (β := β) (d := d) (v := v) (x := x) (s := s) (m := m) (e := ((j, E), (i, c))) hl hA (by omega) hj k3 R m [] τ hR hq hd trivial (by simp)
      have hq' := dn_len R2 q' r3
      have hq0 : 0 ≤ q' := by omega
      have hq4 : q' < 400 := by
        have : (0 : Int) ≤ R1.length := by omega
        simp at r5
        omega
      have p8 : τ' 8 x = σ 8 x := congrFun (r2 8 (by decide)) x
      have p10 : τ' 10 x = σ 10 x := congrFun (r2 10 (by decide)) x
      obtain ⟨τ2, hτ2⟩ : ∃ τ2, τ2 = (su (su τ' 44 (q') (w)) 43 (q') (σ 8 x)) := ⟨_, rfl⟩
      have u43 : ∀ t, τ2 43 t = if t = q' then σ 8 x else τ' 43 t := fun t => by
        rw [hτ2]
        by_cases ht : t = q'
        · rw [if_pos ht, ht, su_eq]
        · rw [if_neg ht, su_ni ht, su_nf (by decide)]
      have u44 : ∀ t, τ2 44 t = if t = q' then w else τ' 44 t := fun t => by
        rw [hτ2, su_nf (by decide)]
        by_cases ht : t = q'
        · rw [if_pos ht, ht, su_eq]
        · rw [if_neg ht, su_ni ht]
      have hd2 : dn σ A B τ2 (insR ((j, E), (i, c)) R) (m + 1) := by
        rw [List.append_nil] at r4
        have key := dn_of (σ := σ) (τ := τ2) (A := A) (B := B) R1.reverse (((j, E), (i, c)) :: R2) (q' + 1) ⟨by
          rw [show q' + 1 - 1 = q' by omega]
          unfold ent
          rw [u43, u44, if_pos rfl, if_pos rfl]
          exact ⟨k3, a1, hN, hc⟩, by
          rw [show q' + 1 - 1 = q' by omega]
          exact dn_upd R2 q' (fun t ht => by rw [u43, u44, if_neg (by omega), if_neg (by omega)]; exact ⟨rfl, rfl⟩) r3⟩ (oA_upd _ (q' + 1) (fun t ht => by rw [u43, u44, if_neg (by omega), if_neg (by omega)]; exact ⟨rfl, rfl⟩) r4)
        rw [List.reverse_reverse, ← r0, List.length_reverse] at key
        rw [show m + 1 = q' + 1 + (R1.length : Int) by simp at r5; omega]
        exact key
      obtain ⟨τ3, c6', c7', z1, z2, z3⟩ := jn_sd_out (β := β) (d := d) (v := v) hl hA hB hs n (σ 10 x) (m + 1) (insR ((j, E), (i, c)) R) τ2 (some (.int (Int32.ofInt w))) (some (.int (Int32.ofInt q'))) wn hr2 hn (fun y hy => by
        rcases insR_mem R y hy with rfl | hy
        · exact hj
        · exact hR y hy) (by rw [hτ2]; exact mEq_su (mEq_su r2 (by decide)) (by decide)) hd2 (by omega)
      refine ⟨τ3, c6', c7', fun res kk => ?_, z2, ?_⟩
      · rw [es] at kk
        refine jr_1 jm_257 (show jw_cd cd_257 11 = some (.iload 5) by decide +kernel) rfl ?_
        refine jr_1 jm_257 (show jw_cd cd_257 13 = some (.iconst (-1)) by decide +kernel) rfl ?_
        refine jr_1 jm_257 (show jw_cd cd_257 14 = some (.if_icmp .eq 136) by decide +kernel) (mb_f (q := .eq) (a := x) (b := -1) (by show ¬ (x = -1); omega) ⟨by omega, by omega⟩ ⟨by omega, by omega⟩ (by decide)) ?_
        refine k1 _ ?_
        refine jr_1 jm_257 (show jw_cd cd_257 47 = some (.iload 4) by decide +kernel) rfl ?_
        refine jr_1 jm_257 (F2 := (51, [some (.ref 15), some (.int (Int32.ofInt (v))), some (.long (Int64.ofInt (pk s))), none, some (.int (Int32.ofInt (m))), some (.int (Int32.ofInt (x))), some (.int (Int32.ofInt (w))), some (.int (Int32.ofInt (m)))], [], ml_mk h τ)) (show jw_cd cd_257 49 = some (.istore 7) by decide +kernel) rfl ?_
        refine r1 _ ?_
        refine jr_1 jm_257 (show jw_cd cd_257 112 = some (.aload_n 0) by decide +kernel) rfl ?_
        refine jr_1 jm_257 (show jw_cd cd_257 113 = some (.getfield 104) by decide +kernel) (mg_a hl (a := 47) (show jw_fld 34 104 16 = some 44 by decide +kernel) (by decide) (by decide)) ?_
        refine jr_1 jm_257 (show jw_cd cd_257 116 = some (.iload 7) by decide +kernel) rfl ?_
        refine jr_1 jm_257 (show jw_cd cd_257 118 = some (.iload 6) by decide +kernel) rfl ?_
        refine jr_1 jm_257 (show jw_cd cd_257 120 = some (.iastore) by decide +kernel) (ms_i hl (i := q') (x := w) 44 (by omega) (by show _ < ((400 : Nat) : Int); omega) (by decide) (by decide) (by decide)) ?_
        refine jr_1 jm_257 (show jw_cd cd_257 121 = some (.aload_n 0) by decide +kernel) rfl ?_
        refine jr_1 jm_257 (show jw_cd cd_257 122 = some (.getfield 101) by decide +kernel) (mg_a hl (a := 46) (show jw_fld 34 101 16 = some 43 by decide +kernel) (by decide) (by decide)) ?_
        refine jr_1 jm_257 (show jw_cd cd_257 125 = some (.iload 7) by decide +kernel) rfl ?_
        refine jr_1 jm_257 (show jw_cd cd_257 127 = some (.aload_n 0) by decide +kernel) rfl ?_
        refine jr_1 jm_257 (show jw_cd cd_257 128 = some (.getfield 29) by decide +kernel) (mg_a hl (a := 22) (show jw_fld 34 29 16 = some 8 by decide +kernel) (by decide) (by decide)) ?_
        refine jr_1 jm_257 (show jw_cd cd_257 131 = some (.iload 5) by decide +kernel) rfl ?_
        refine jr_1 jm_257 (show jw_cd cd_257 133 = some (.iaload) by decide +kernel) (ma_i hl (i := x) (e := σ 8 x) 8 (by omega) (by show _ < ((1740 : Nat) : Int); omega) ((su_nf (by decide)).trans p8) (by decide) (by decide) (by decide)) ?_
        refine jr_1 jm_257 (show jw_cd cd_257 134 = some (.iastore) by decide +kernel) (ms_i hl (i := q') (x := σ 8 x) 43 (by omega) (by show _ < ((400 : Nat) : Int); omega) (by decide) (by decide) (by decide)) ?_
        refine jr_1 jm_257 (F2 := (138, [some (.ref 15), some (.int (Int32.ofInt (v))), some (.long (Int64.ofInt (pk s))), none, some (.int (Int32.ofInt (m + 1))), some (.int (Int32.ofInt (x))), some (.int (Int32.ofInt (w))), some (.int (Int32.ofInt (q')))], [], ml_mk h (su (su τ' 44 (q') (w)) 43 (q') (σ 8 x)))) (show jw_cd cd_257 135 = some (.iinc 4 1) by decide +kernel) (mt_inc (a := m) (c := m + 1) rfl (by omega) rfl) ?_
        refine jr_1 jm_257 (show jw_cd cd_257 138 = some (.aload_n 0) by decide +kernel) rfl ?_
        refine jr_1 jm_257 (show jw_cd cd_257 139 = some (.getfield 35) by decide +kernel) (mg_a hl (a := 24) (show jw_fld 34 35 16 = some 10 by decide +kernel) (by decide) (by decide)) ?_
        refine jr_1 jm_257 (show jw_cd cd_257 142 = some (.iload 5) by decide +kernel) rfl ?_
        refine jr_1 jm_257 (show jw_cd cd_257 144 = some (.iaload) by decide +kernel) (ma_i hl (i := x) (e := σ 10 x) 10 (by omega) (by show _ < ((1740 : Nat) : Int); omega) ((su_nf (by decide)).trans ((su_nf (by decide)).trans p10)) (by decide) (by decide) (by decide)) ?_
        refine jr_1 jm_257 (F2 := (147, [some (.ref 15), some (.int (Int32.ofInt (v))), some (.long (Int64.ofInt (pk s))), none, some (.int (Int32.ofInt (m + 1))), some (.int (Int32.ofInt (σ 10 x))), some (.int (Int32.ofInt (w))), some (.int (Int32.ofInt (q')))], [], ml_mk h (su (su τ' 44 (q') (w)) 43 (q') (σ 8 x)))) (show jw_cd cd_257 145 = some (.istore 5) by decide +kernel) rfl ?_
        refine jr_1 jm_257 (show jw_cd cd_257 147 = some (.goto (-136)) by decide +kernel) (ju_go (t := 11) (by decide)) ?_
        rw [← hτ2]
        exact z1 res kk
      · rw [es]
        show dn σ A B τ3 (match vrank s i c with | some r => fsorted s n (insR (r, (i, c)) R) | none => fsorted s n R) _
        rw [hv]
        exact z3
