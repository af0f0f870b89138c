/-! ===== the model as a whole: its state and its calls (printed by program: gen72.py) ===== -/
/-- the queries that have been read -/
def qsR (σ : mS) (qs : List (List sT)) : Prop := ∀ (j : Nat) (l : List sT), qs[j]? = some l → quR σ (100 * (j : Int)) l ∧ quP σ (12 * (j : Int) + 12) (100 * (j : Int)) l ∧ σ 16 (j : Int) = quL l ∧ quL l ≤ 92 ∧ ∀ st ∈ l, sgO st
/-- the model's state: n letters of text, a document, a result, queries -/
def mdR (σ : mS) (n : Int) (doc res : vT) (qs : List (List sT)) : Prop := σ 2 0 = n ∧ tOK (σ 1) n ∧ (σ 13 0 = 170 * 0 ∧ mV σ (Zn 0) (Zn 0) (170 * 0) doc.1 doc.2 ∧ vI doc) ∧ (σ 14 0 = 170 * 1 ∧ mV σ (Zn 1) (Zn 1) (170 * 1) res.1 res.2 ∧ vI res) ∧ σ 15 0 = (qs.length : Int) ∧ qs.length ≤ 12 ∧ qsR σ qs
theorem Zn_ix {z : Int} (hz : 0 ≤ z ∧ z < 4) : mIx (Zn z) := fun v hv => ⟨by have := hv.1; omega, by have := hv.2; omega⟩
theorem mV_z {σ τ : mS} {z w : Int} {i : tI} {c : FT} (hq : ∀ f v, Zn z v → 3 ≤ f → f ≤ 10 → τ f v = σ f v) (h : mV σ (Zn z) (Zn z) w i c) : mV τ (Zn z) (Zn z) w i c := by
  have hA3 : ∀ v, Zn z v → τ 3 v = σ 3 v ∧ τ 4 v = σ 4 v ∧ τ 5 v = σ 5 v ∧ τ 6 v = σ 6 v ∧ τ 7 v = σ 7 v := fun v hv => ⟨hq 3 v hv (by decide) (by decide), hq 4 v hv (by decide) (by decide), hq 5 v hv (by decide) (by decide), hq 6 v hv (by decide) (by decide), hq 7 v hv (by decide) (by decide)⟩
  obtain ⟨a1, ⟨n1, n2, n3, n4⟩, hF⟩ := h
  obtain ⟨x1, x2, x3, x4, x5⟩ := hA3 w a1
  exact ⟨a1, ⟨x1.trans n1, x2.trans n2, x3.trans n3, x5.trans n4⟩, by rw [x4]; exact mF_frame hA3 (fun x hx => ⟨hq 8 x hx (by decide) (by decide), hq 9 x hx (by decide) (by decide), hq 10 x hx (by decide) (by decide)⟩) c _ hF⟩
theorem quP_fr {σ τ : mS} (hq : τ 19 = σ 19) {s1 : Int} : ∀ (l : List sT) (i : Int), quP σ s1 i l → quP τ s1 i l
  | [], _, _ => trivial
  | st :: l, i, h => by
    have hit : ∀ (l : List sE) (i : Int), itP σ s1 i l → itP τ s1 i l := fun l => by
      induction l with
      | nil => intro i _; exact trivial
      | cons e l ih => intro i hh; exact ⟨fun z => by rw [hq]; exact hh.1 z, ih (i + 1) hh.2⟩
    exact ⟨fun z => hit _ _ (h.1 z), quP_fr hq l _ h.2⟩
theorem qsR_fr {σ τ : mS} (hq : ∀ f, 16 ≤ f → f ≤ 27 → τ f = σ f) {qs : List (List sT)} (h : qsR σ qs) : qsR τ qs := fun j l hj => by
  obtain ⟨a, b, c, e⟩ := h j l hj
  exact ⟨quR_fr (fun f f1 f2 => hq f (by omega) f2) _ _ a, quP_fr (hq 19 (by decide) (by decide)) _ _ b, by rw [hq 16 (by decide) (by decide)]; exact c, e⟩
/-- nothing that the state speaks of has changed -/
theorem mdR_fr {σ τ : mS} {n : Int} {doc res : vT} {qs : List (List sT)} (h1 : ∀ f, f ∈ [1, 2, 13, 14, 15, 16, 17, 18, 19, 20, 21, 22, 23, 24, 25, 26, 27] → τ f = σ f) (h2 : ∀ f v, 0 ≤ v → v < 340 → 3 ≤ f → f ≤ 10 → τ f v = σ f v) (h : mdR σ n doc res qs) : mdR τ n doc res qs := by
  obtain ⟨a1, a2, ⟨a3, a4, a5⟩, ⟨a6, a7, a8⟩, a9, a10, a11⟩ := h
  refine ⟨by rw [h1 2 (by decide)]; exact a1, by rw [h1 1 (by decide)]; exact a2, ⟨by rw [h1 13 (by decide)]; exact a3, mV_z (fun f v hv f1 f2 => h2 f v (by have := hv.1; omega) (by have := hv.2; omega) f1 f2) a4, a5⟩, ⟨by rw [h1 14 (by decide)]; exact a6, mV_z (fun f v hv f1 f2 => h2 f v (by have := hv.1; omega) (by have := hv.2; omega) f1 f2) a7, a8⟩, by rw [h1 15 (by decide)]; exact a9, a10, qsR_fr (fun f f1 f2 => h1 f (by simp; omega)) a11⟩
theorem mdR_0 {σ : mS} {x n : Int} {doc res : vT} {qs : List (List sT)} (h : mdR σ n doc res qs) : mdR (su σ 0 0 x) n doc res qs := mdR_fr (fun f hf => su_row (by simp only [List.mem_cons, List.mem_nil_iff, or_false] at hf; omega)) (fun f v _ _ f1 _ => su_nf (by omega)) h
theorem mdR_q {σ τ : mS} {L : List Nat} {n : Int} {doc res : vT} {qs : List (List sT)} (hL : ∀ g ∈ L, g = 0 ∨ g = 43 ∨ g = 44 ∨ g = 45 ∨ g = 46) (hq : mEq L σ τ) (h : mdR σ n doc res qs) : mdR τ n doc res qs := mdR_fr (fun f hf => hq f (fun hh => by
  have := hL f hh
  simp only [List.mem_cons, List.mem_nil_iff, or_false] at hf
  omega)) (fun f v _ _ f1 f2 => by rw [hq f (fun hh => by have := hL f hh; omega)]) h
theorem jn_let_1 {β : Bool} {d : Nat} {h : jx_H} {σ : mS} (hl : 49 ≤ h.length) {c n : Int} (hc : mr c) (e2 : σ 2 0 = n) (hx : c < 32 ∨ 126 < c) : jx_r (jz β) jw_M (d) 210 (0, [some (.ref 15), some (.int (Int32.ofInt (c)))], [], ml_mk h σ) (ml_mk h (su σ 0 0 1), .inl (some (.int (Int32.ofInt (n))))) := by
  obtain ⟨c0, c1⟩ := hc
  by_cases h1 : c < 32
  · skip
    refine jr_1 jm_210 (show jw_cd cd_210 0 = some (.aload_n 0) by decide +kernel) rfl ?_
    refine jr_1 jm_210 (show jw_cd cd_210 1 = some (.iload_n 1) by decide +kernel) rfl ?_
    refine jr_1 jm_210 (show jw_cd cd_210 2 = some (.bipush 32) by decide +kernel) (mt_bi (by decide)) ?_
    refine jr_1 jm_210 (show jw_cd cd_210 4 = some (.if_icmp .lt 9) by decide +kernel) (mb_t (q := .lt) (a := c) (b := 32) (t := 13) (by show c < 32; omega) ⟨by omega, by omega⟩ ⟨by omega, by omega⟩ (by decide) (by decide)) ?_
    refine jr_1 jm_210 (show jw_cd cd_210 13 = some (.iconst 1) by decide +kernel) rfl ?_
    refine jr_1 jm_210 (show jw_cd cd_210 14 = some (.goto 18) by decide +kernel) (ju_go (t := 32) (by decide)) ?_
    refine jr_1 jm_210 (show jw_cd cd_210 32 = some (.putfield 121) by decide +kernel) (mp_i hl (x := 1) (show jw_fld 34 121 16 = some 0 by decide +kernel) (by decide) (by decide) (show jw_ft 16 0 = some .int by decide +kernel) (show jw_fm 34 16 0 = some false by decide +kernel)) ?_
    refine jr_1 jm_210 (show jw_cd cd_210 35 = some (.aload_n 0) by decide +kernel) rfl ?_
    refine jr_1 jm_210 (show jw_cd cd_210 36 = some (.getfield 121) by decide +kernel) (mg_i hl (e := 1) (su_eq _ _ _ _) (show jw_fld 34 121 16 = some 0 by decide +kernel) (by decide) (by decide)) ?_
    refine jr_1 jm_210 (show jw_cd cd_210 39 = some (.ifCond .ne 23) by decide +kernel) (mz_t (q := .ne) (a := 1) (t := 62) (by show ¬ (1 = 0); omega) ⟨by omega, by omega⟩ (by decide) (by decide)) ?_
    refine jr_1 jm_210 (show jw_cd cd_210 62 = some (.aload_n 0) by decide +kernel) rfl ?_
    refine jr_1 jm_210 (show jw_cd cd_210 63 = some (.getfield 142) by decide +kernel) (mg_i hl (e := n) ((su_nf (by decide)).trans e2) (show jw_fld 34 142 16 = some 2 by decide +kernel) (by decide) (by decide)) ?_
    exact jr_v jm_210 (show jw_cd cd_210 66 = some (.ireturn) by decide +kernel) rfl
  · skip
    refine jr_1 jm_210 (show jw_cd cd_210 0 = some (.aload_n 0) by decide +kernel) rfl ?_
    refine jr_1 jm_210 (show jw_cd cd_210 1 = some (.iload_n 1) by decide +kernel) rfl ?_
    refine jr_1 jm_210 (show jw_cd cd_210 2 = some (.bipush 32) by decide +kernel) (mt_bi (by decide)) ?_
    refine jr_1 jm_210 (show jw_cd cd_210 4 = some (.if_icmp .lt 9) by decide +kernel) (mb_f (q := .lt) (a := c) (b := 32) (by show ¬ (c < 32); omega) ⟨by omega, by omega⟩ ⟨by omega, by omega⟩ (by decide)) ?_
    refine jr_1 jm_210 (show jw_cd cd_210 7 = some (.iload_n 1) by decide +kernel) rfl ?_
    refine jr_1 jm_210 (show jw_cd cd_210 8 = some (.bipush 126) by decide +kernel) (mt_bi (by decide)) ?_
    refine jr_1 jm_210 (show jw_cd cd_210 10 = some (.if_icmp .le 7) by decide +kernel) (mb_f (q := .le) (a := c) (b := 126) (by show ¬ (c ≤ 126); omega) ⟨by omega, by omega⟩ ⟨by omega, by omega⟩ (by decide)) ?_
    refine jr_1 jm_210 (show jw_cd cd_210 13 = some (.iconst 1) by decide +kernel) rfl ?_
    refine jr_1 jm_210 (show jw_cd cd_210 14 = some (.goto 18) by decide +kernel) (ju_go (t := 32) (by decide)) ?_
    refine jr_1 jm_210 (show jw_cd cd_210 32 = some (.putfield 121) by decide +kernel) (mp_i hl (x := 1) (show jw_fld 34 121 16 = some 0 by decide +kernel) (by decide) (by decide) (show jw_ft 16 0 = some .int by decide +kernel) (show jw_fm 34 16 0 = some false by decide +kernel)) ?_
    refine jr_1 jm_210 (show jw_cd cd_210 35 = some (.aload_n 0) by decide +kernel) rfl ?_
    refine jr_1 jm_210 (show jw_cd cd_210 36 = some (.getfield 121) by decide +kernel) (mg_i hl (e := 1) (su_eq _ _ _ _) (show jw_fld 34 121 16 = some 0 by decide +kernel) (by decide) (by decide)) ?_
    refine jr_1 jm_210 (show jw_cd cd_210 39 = some (.ifCond .ne 23) by decide +kernel) (mz_t (q := .ne) (a := 1) (t := 62) (by show ¬ (1 = 0); omega) ⟨by omega, by omega⟩ (by decide) (by decide)) ?_
    refine jr_1 jm_210 (show jw_cd cd_210 62 = some (.aload_n 0) by decide +kernel) rfl ?_
    refine jr_1 jm_210 (show jw_cd cd_210 63 = some (.getfield 142) by decide +kernel) (mg_i hl (e := n) ((su_nf (by decide)).trans e2) (show jw_fld 34 142 16 = some 2 by decide +kernel) (by decide) (by decide)) ?_
    exact jr_v jm_210 (show jw_cd cd_210 66 = some (.ireturn) by decide +kernel) rfl
theorem jn_let_2 {β : Bool} {d : Nat} {h : jx_H} {σ : mS} (hl : 49 ≤ h.length) {c n : Int} (hc : 32 ≤ c ∧ c ≤ 126) (e2 : σ 2 0 = n) (hx : n = 160) : jx_r (jz β) jw_M (d) 210 (0, [some (.ref 15), some (.int (Int32.ofInt (c)))], [], ml_mk h σ) (ml_mk h (su σ 0 0 2), .inl (some (.int (Int32.ofInt (n))))) := by
  obtain ⟨c0, c1⟩ := hc
  refine jr_1 jm_210 (show jw_cd cd_210 0 = some (.aload_n 0) by decide +kernel) rfl ?_
  refine jr_1 jm_210 (show jw_cd cd_210 1 = some (.iload_n 1) by decide +kernel) rfl ?_
  refine jr_1 jm_210 (show jw_cd cd_210 2 = some (.bipush 32) by decide +kernel) (mt_bi (by decide)) ?_
  refine jr_1 jm_210 (show jw_cd cd_210 4 = some (.if_icmp .lt 9) by decide +kernel) (mb_f (q := .lt) (a := c) (b := 32) (by show ¬ (c < 32); omega) ⟨by omega, by omega⟩ ⟨by omega, by omega⟩ (by decide)) ?_
  refine jr_1 jm_210 (show jw_cd cd_210 7 = some (.iload_n 1) by decide +kernel) rfl ?_
  refine jr_1 jm_210 (show jw_cd cd_210 8 = some (.bipush 126) by decide +kernel) (mt_bi (by decide)) ?_
  refine jr_1 jm_210 (show jw_cd cd_210 10 = some (.if_icmp .le 7) by decide +kernel) (mb_t (q := .le) (a := c) (b := 126) (t := 17) (by show c ≤ 126; omega) ⟨by omega, by omega⟩ ⟨by omega, by omega⟩ (by decide) (by decide)) ?_
  refine jr_1 jm_210 (show jw_cd cd_210 17 = some (.aload_n 0) by decide +kernel) rfl ?_
  refine jr_1 jm_210 (show jw_cd cd_210 18 = some (.getfield 142) by decide +kernel) (mg_i hl (e := n) e2 (show jw_fld 34 142 16 = some 2 by decide +kernel) (by decide) (by decide)) ?_
  refine jr_1 jm_210 (show jw_cd cd_210 21 = some (.sipush 160) by decide +kernel) (mt_si (by decide)) ?_
  refine jr_1 jm_210 (show jw_cd cd_210 24 = some (.if_icmp .ne 7) by decide +kernel) (mb_f (q := .ne) (a := n) (b := 160) (by show ¬ (¬ (n = 160)); omega) ⟨by omega, by omega⟩ ⟨by omega, by omega⟩ (by decide)) ?_
  refine jr_1 jm_210 (show jw_cd cd_210 27 = some (.iconst 2) by decide +kernel) rfl ?_
  refine jr_1 jm_210 (show jw_cd cd_210 28 = some (.goto 4) by decide +kernel) (ju_go (t := 32) (by decide)) ?_
  refine jr_1 jm_210 (show jw_cd cd_210 32 = some (.putfield 121) by decide +kernel) (mp_i hl (x := 2) (show jw_fld 34 121 16 = some 0 by decide +kernel) (by decide) (by decide) (show jw_ft 16 0 = some .int by decide +kernel) (show jw_fm 34 16 0 = some false by decide +kernel)) ?_
  refine jr_1 jm_210 (show jw_cd cd_210 35 = some (.aload_n 0) by decide +kernel) rfl ?_
  refine jr_1 jm_210 (show jw_cd cd_210 36 = some (.getfield 121) by decide +kernel) (mg_i hl (e := 2) (su_eq _ _ _ _) (show jw_fld 34 121 16 = some 0 by decide +kernel) (by decide) (by decide)) ?_
  refine jr_1 jm_210 (show jw_cd cd_210 39 = some (.ifCond .ne 23) by decide +kernel) (mz_t (q := .ne) (a := 2) (t := 62) (by show ¬ (2 = 0); omega) ⟨by omega, by omega⟩ (by decide) (by decide)) ?_
  refine jr_1 jm_210 (show jw_cd cd_210 62 = some (.aload_n 0) by decide +kernel) rfl ?_
  refine jr_1 jm_210 (show jw_cd cd_210 63 = some (.getfield 142) by decide +kernel) (mg_i hl (e := n) ((su_nf (by decide)).trans e2) (show jw_fld 34 142 16 = some 2 by decide +kernel) (by decide) (by decide)) ?_
  exact jr_v jm_210 (show jw_cd cd_210 66 = some (.ireturn) by decide +kernel) rfl
theorem jn_let_0 {β : Bool} {d : Nat} {h : jx_H} {σ : mS} (hl : 49 ≤ h.length) {c n : Int} (hc : 32 ≤ c ∧ c ≤ 126) (e2 : σ 2 0 = n) (hx : 0 ≤ n ∧ n < 160) : jx_r (jz β) jw_M (d) 210 (0, [some (.ref 15), some (.int (Int32.ofInt (c)))], [], ml_mk h σ) (ml_mk h ((su (su (su σ 0 (0) (0)) 1 (n) (c)) 2 (0) (n + 1))), .inl (some (.int (Int32.ofInt (n + 1))))) := by
  obtain ⟨c0, c1⟩ := hc
  obtain ⟨x0, x1⟩ := hx
  refine jr_1 jm_210 (show jw_cd cd_210 0 = some (.aload_n 0) by decide +kernel) rfl ?_
  refine jr_1 jm_210 (show jw_cd cd_210 1 = some (.iload_n 1) by decide +kernel) rfl ?_
  refine jr_1 jm_210 (show jw_cd cd_210 2 = some (.bipush 32) by decide +kernel) (mt_bi (by decide)) ?_
  refine jr_1 jm_210 (show jw_cd cd_210 4 = some (.if_icmp .lt 9) by decide +kernel) (mb_f (q := .lt) (a := c) (b := 32) (by show ¬ (c < 32); omega) ⟨by omega, by omega⟩ ⟨by omega, by omega⟩ (by decide)) ?_
  refine jr_1 jm_210 (show jw_cd cd_210 7 = some (.iload_n 1) by decide +kernel) rfl ?_
  refine jr_1 jm_210 (show jw_cd cd_210 8 = some (.bipush 126) by decide +kernel) (mt_bi (by decide)) ?_
  refine jr_1 jm_210 (show jw_cd cd_210 10 = some (.if_icmp .le 7) by decide +kernel) (mb_t (q := .le) (a := c) (b := 126) (t := 17) (by show c ≤ 126; omega) ⟨by omega, by omega⟩ ⟨by omega, by omega⟩ (by decide) (by decide)) ?_
  refine jr_1 jm_210 (show jw_cd cd_210 17 = some (.aload_n 0) by decide +kernel) rfl ?_
  refine jr_1 jm_210 (show jw_cd cd_210 18 = some (.getfield 142) by decide +kernel) (mg_i hl (e := n) e2 (show jw_fld 34 142 16 = some 2 by decide +kernel) (by decide) (by decide)) ?_
  refine jr_1 jm_210 (show jw_cd cd_210 21 = some (.sipush 160) by decide +kernel) (mt_si (by decide)) ?_
  refine jr_1 jm_210 (show jw_cd cd_210 24 = some (.if_icmp .ne 7) by decide +kernel) (mb_t (q := .ne) (a := n) (b := 160) (t := 31) (by show ¬ (n = 160); omega) ⟨by omega, by omega⟩ ⟨by omega, by omega⟩ (by decide) (by decide)) ?_
  refine jr_1 jm_210 (show jw_cd cd_210 31 = some (.iconst 0) by decide +kernel) rfl ?_
  refine jr_1 jm_210 (show jw_cd cd_210 32 = some (.putfield 121) by decide +kernel) (mp_i hl (x := 0) (show jw_fld 34 121 16 = some 0 by decide +kernel) (by decide) (by decide) (show jw_ft 16 0 = some .int by decide +kernel) (show jw_fm 34 16 0 = some false by decide +kernel)) ?_
  refine jr_1 jm_210 (show jw_cd cd_210 35 = some (.aload_n 0) by decide +kernel) rfl ?_
  refine jr_1 jm_210 (show jw_cd cd_210 36 = some (.getfield 121) by decide +kernel) (mg_i hl (e := 0) (su_eq _ _ _ _) (show jw_fld 34 121 16 = some 0 by decide +kernel) (by decide) (by decide)) ?_
  refine jr_1 jm_210 (show jw_cd cd_210 39 = some (.ifCond .ne 23) by decide +kernel) (mz_f (q := .ne) (a := 0) (by show ¬ (¬ (0 = 0)); omega) ⟨by omega, by omega⟩ (by decide)) ?_
  refine jr_1 jm_210 (show jw_cd cd_210 42 = some (.aload_n 0) by decide +kernel) rfl ?_
  refine jr_1 jm_210 (show jw_cd cd_210 43 = some (.getfield 7) by decide +kernel) (mg_a hl (a := 16) (show jw_fld 34 7 16 = some 1 by decide +kernel) (by decide) (by decide)) ?_
  refine jr_1 jm_210 (show jw_cd cd_210 46 = some (.aload_n 0) by decide +kernel) rfl ?_
  refine jr_1 jm_210 (show jw_cd cd_210 47 = some (.getfield 142) by decide +kernel) (mg_i hl (e := n) ((su_nf (by decide)).trans e2) (show jw_fld 34 142 16 = some 2 by decide +kernel) (by decide) (by decide)) ?_
  refine jr_1 jm_210 (show jw_cd cd_210 50 = some (.iload_n 1) by decide +kernel) rfl ?_
  refine jr_1 jm_210 (show jw_cd cd_210 51 = some (.iastore) by decide +kernel) (ms_i hl (i := n) (x := c) 1 (by omega) (by show _ < ((160 : Nat) : Int); omega) (by decide) (by decide) (by decide)) ?_
  refine jr_1 jm_210 (show jw_cd cd_210 52 = some (.aload_n 0) by decide +kernel) rfl ?_
  refine jr_1 jm_210 (show jw_cd cd_210 53 = some (.dup) by decide +kernel) rfl ?_
  refine jr_1 jm_210 (show jw_cd cd_210 54 = some (.getfield 142) by decide +kernel) (mg_i hl (e := n) ((su_nf (by decide)).trans ((su_nf (by decide)).trans e2)) (show jw_fld 34 142 16 = some 2 by decide +kernel) (by decide) (by decide)) ?_
  refine jr_1 jm_210 (show jw_cd cd_210 57 = some (.iconst 1) by decide +kernel) rfl ?_
  refine jr_1 jm_210 (show jw_cd cd_210 58 = some (.iadd) by decide +kernel) (mt_add (c := n + 1) rfl) ?_
  refine jr_1 jm_210 (show jw_cd cd_210 59 = some (.putfield 142) by decide +kernel) (mp_i hl (x := n + 1) (show jw_fld 34 142 16 = some 2 by decide +kernel) (by decide) (by decide) (show jw_ft 16 2 = some .int by decide +kernel) (show jw_fm 34 16 2 = some false by decide +kernel)) ?_
  refine jr_1 jm_210 (show jw_cd cd_210 62 = some (.aload_n 0) by decide +kernel) rfl ?_
  refine jr_1 jm_210 (show jw_cd cd_210 63 = some (.getfield 142) by decide +kernel) (mg_i hl (e := n + 1) (su_eq _ _ _ _) (show jw_fld 34 142 16 = some 2 by decide +kernel) (by decide) (by decide)) ?_
  exact jr_v jm_210 (show jw_cd cd_210 66 = some (.ireturn) by decide +kernel) rfl
theorem mo_letter {β : Bool} {d : Nat} {h : jx_H} {σ : mS} (hl : 49 ≤ h.length) {c n : Int} {doc res : vT} {qs : List (List sT)} (hm : mdR σ n doc res qs) (hc : mr c) : (c < 32 ∨ 126 < c → jx_r (jz β) jw_M (d) 210 (0, [some (.ref 15), some (.int (Int32.ofInt (c)))], [], ml_mk h σ) (ml_mk h (su σ 0 0 1), .inl (some (.int (Int32.ofInt (n)))))) ∧ (¬ (c < 32 ∨ 126 < c) → n = 160 → jx_r (jz β) jw_M (d) 210 (0, [some (.ref 15), some (.int (Int32.ofInt (c)))], [], ml_mk h σ) (ml_mk h (su σ 0 0 2), .inl (some (.int (Int32.ofInt (n)))))) ∧ (¬ (c < 32 ∨ 126 < c) → ¬ n = 160 → ∃ τ : mS, jx_r (jz β) jw_M (d) 210 (0, [some (.ref 15), some (.int (Int32.ofInt (c)))], [], ml_mk h σ) (ml_mk h (τ), .inl (some (.int (Int32.ofInt (n + 1))))) ∧ τ 0 0 = 0 ∧ mdR τ (n + 1) doc res qs ∧ τ 1 = fun i => if i = n then c else σ 1 i) := by
  have hn := hm.2.1
  refine ⟨fun h => jn_let_1 hl hc hm.1 h, fun h h2 => jn_let_2 hl ⟨by omega, by omega⟩ hm.1 h2, fun h h2 => ⟨_, jn_let_0 hl ⟨by omega, by omega⟩ hm.1 ⟨hn.1, by have := hn.2.1; omega⟩, ?_, ?_, ?_⟩⟩
  · rw [su_nf (by decide), su_nf (by decide), su_eq]
  · obtain ⟨a1, a2, a3⟩ := mdR_0 (x := 0) hm
    have hq : ∀ f, ¬ f = 1 → ¬ f = 2 → (su (su (su σ 0 (0) (0)) 1 (n) (c)) 2 (0) (n + 1)) f = (su σ 0 0 0) f := fun f f1 f2 => by rw [su_row f2, su_row f1]
    obtain ⟨⟨a4, a5, a6⟩, ⟨a7, a8, a9⟩, a10, a11, a12⟩ := a3
    refine ⟨su_eq _ _ _ _, ⟨by have := hn.1; omega, by have := hn.2.1; omega, fun i i0 i1 => ?_⟩, ⟨by rw [hq 13 (by decide) (by decide)]; exact a4, mV_eq (fun f f1 f2 => hq f (by omega) (by omega)) a5, a6⟩, ⟨by rw [hq 14 (by decide) (by decide)]; exact a7, mV_eq (fun f f1 f2 => hq f (by omega) (by omega)) a8, a9⟩, by rw [hq 15 (by decide) (by decide)]; exact a10, a11, qsR_fr (fun f f1 f2 => hq f (by omega) (by omega)) a12⟩
    rw [su_nf (by decide)]
    by_cases hi : i = n
    · rw [hi, su_eq]
      omega
    · rw [su_ni hi, su_nf (by decide)]
      exact hn.2.2 i i0 (by omega)
  · rw [su_row (by decide)]
    funext i
    by_cases hi : i = n
    · rw [hi, su_eq, if_pos rfl]
    · rw [su_ni hi, if_neg hi, su_nf (by decide)]
theorem tOK_0 (T : Int → Int) : tOK T 0 := ⟨Int.le_refl 0, by decide, fun i i0 i1 => by omega⟩
theorem mo_load {β : Bool} {d : Nat} {h : jx_H} {σ : mS} (hl : 49 ≤ h.length) {n : Int} {doc res : vT} {qs : List (List sT)} (hm : mdR σ n doc res qs) : (∀ e, sLoad (σ 1) n = .inl e → ∃ τ : mS, jx_r (jz β) jw_M (d + 7) 211 (0, [some (.ref 15), none], [], ml_mk h σ) (ml_mk h (τ), .inl (some (.int (Int32.ofInt (-1 - e))))) ∧ mdR τ 0 doc res qs) ∧ (∀ v, sLoad (σ 1) n = .inr v → ∃ τ : mS, jx_r (jz β) jw_M (d + 7) 211 (0, [some (.ref 15), none], [], ml_mk h σ) (ml_mk h (τ), .inl (some (.int (Int32.ofInt (1 + (fct v.2 : Int)))))) ∧ mdR τ 0 v res qs) := by
  obtain ⟨a1, a2, ⟨a3, a4, a5⟩, ⟨a6, a7, a8⟩, a9, a10, a11⟩ := id hm
  refine ⟨fun e he => ?_, fun v he => ?_⟩
  · obtain ⟨τ, r1, r2, r3, r4, r5⟩ := jn_load_er (β := β) (d := d) (h := h) hl a2 rfl a1 he
    refine ⟨τ, r1, r3, tOK_0 _, ⟨by rw [r5 13 (by decide)]; exact a3, mV_z (fun f v hv f1 f2 => r4 f v f1 f2 (by have := hv.2; omega)) a4, a5⟩, ⟨by rw [r5 14 (by decide)]; exact a6, mV_z (fun f v hv f1 f2 => r4 f v f1 f2 (by have := hv.2; omega)) a7, a8⟩, by rw [r5 15 (by decide)]; exact a9, a10, qsR_fr (fun f f1 f2 => r5 f (by simp; omega)) a11⟩
  · obtain ⟨i, F⟩ := v
    obtain ⟨τ, r1, r2, r3, r4, r5, r6, r7⟩ := jn_load_ok (β := β) (d := d) (h := h) hl a2 rfl a1 he
    exact ⟨τ, r1, r3, tOK_0 _, ⟨r4, r5, sLoad_I a2 he⟩, ⟨by rw [r7 14 (by decide) (by decide)]; exact a6, mV_z (fun f v hv f1 f2 => r6 f v f1 f2 (by have := hv.1; omega) (by have := hv.2; omega)) a7, a8⟩, by rw [r7 15 (by decide) (by decide)]; exact a9, a10, qsR_fr (fun f f1 f2 => r7 f (by simp; omega) (by omega)) a11⟩
theorem qsR_rq {σ τ : mS} {Q : Int} {qs : List (List sT)} (hF : rqF σ τ Q) (hQ : Q = qs.length) (h : qsR σ qs) : qsR τ qs := fun j l hj => by
  obtain ⟨a, b, c, e, g⟩ := h j l hj
  have hjl : j < qs.length := (List.getElem?_eq_some_iff.mp hj).1
  have hrd : rdF (fun f => if f ∈ [2, 15, 28, 29, 30, 31, 32] then σ f else σ f) (fun f => if f ∈ [2, 15, 28, 29, 30, 31, 32] then σ f else τ f) Q (100 * (j : Int) + quL l) (12 * (j : Int) + 12) := by
    refine ⟨fun f hf => ?_, fun v v0 hv => ?_, fun f v f1 f2 hv => ?_, fun f v f1 f2 hv => ?_⟩
    · by_cases hm : f ∈ [2, 15, 28, 29, 30, 31, 32]
      · simp only [if_pos hm]
      · simp only [if_neg hm]
        exact hF.1 f (by simp only [List.mem_cons, List.mem_nil_iff, or_false, not_or] at hf hm ⊢; omega)
    · exact hF.2.1 v v0 hv
    · have hm : f ∉ [2, 15, 28, 29, 30, 31, 32] := by simp; omega
      simp only [if_neg hm]
      exact hF.2.2.1 f v f1 f2 (by omega)
    · have hm : f ∉ [2, 15, 28, 29, 30, 31, 32] := by simp; omega
      simp only [if_neg hm]
      refine hF.2.2.2 f v f1 f2 ?_
      have := Int.mul_le_mul_of_nonneg_left (show 12 * (j : Int) + 12 ≤ 12 * Q by omega) (show 0 ≤ mulf f by have := (mulf_r f).1; omega)
      omega
  have hs : (fun f => if f ∈ [2, 15, 28, 29, 30, 31, 32] then σ f else σ f) = σ := by
    funext f
    split
    · rfl
    · rfl
  rw [hs] at hrd
  obtain ⟨q1, q2⟩ := quR_rd hrd l (100 * (j : Int)) (Int.le_refl _) b a
  have hq : ∀ f, 16 ≤ f → f ≤ 27 → τ f = (fun f => if f ∈ [2, 15, 28, 29, 30, 31, 32] then σ f else τ f) f := fun f f1 f2 => by
    have hm : f ∉ [2, 15, 28, 29, 30, 31, 32] := by simp; omega
    simp only [if_neg hm]
  exact ⟨quR_fr (fun f f1 f2 => hq f (by omega) f2) _ _ q1, quP_fr (σ := fun f => if f ∈ [2, 15, 28, 29, 30, 31, 32] then σ f else τ f) (hq 19 (by decide) (by decide)) _ _ q2, by rw [hF.2.1 j (by omega) (by omega)]; exact c, e, g⟩
theorem mo_query {β : Bool} {d : Nat} {h : jx_H} {σ : mS} (hl : 49 ≤ h.length) {n : Int} {doc res : vT} {qs : List (List sT)} (hm : mdR σ n doc res qs) : (qs.length = 12 → jx_r (jz β) jw_M (d + 8) 232 (0, [some (.ref 15), none, none], [], ml_mk h σ) (ml_mk h (su σ 0 0 1), .inl (some (.int (Int32.ofInt (0)))))) ∧ (¬ qs.length = 12 → (∀ e, sQry (σ 1) n = .inl e → ∃ τ : mS, jx_r (jz β) jw_M (d + 8) 232 (0, [some (.ref 15), none, none], [], ml_mk h σ) (ml_mk h (τ), .inl (some (.int (Int32.ofInt (-1 - e))))) ∧ τ 0 0 = 0 ∧ mdR τ 0 doc res qs) ∧ (∀ l, sQry (σ 1) n = .inr l → ∃ τ : mS, jx_r (jz β) jw_M (d + 8) 232 (0, [some (.ref 15), none, none], [], ml_mk h σ) (ml_mk h (τ), .inl (some (.int (Int32.ofInt ((qs.length : Int)))))) ∧ τ 0 0 = 0 ∧ mdR τ 0 doc res (qs ++ [l]))) := by
  obtain ⟨a1, a2, ⟨a3, a4, a5⟩, ⟨a6, a7, a8⟩, a9, a10, a11⟩ := id hm
  refine ⟨fun h12 => jn_query_no (d := d + 8) hl a9 (by omega), fun h12 => ?_⟩
  have hz := jn_query (β := β) (d := d) (h := h) hl a2 rfl a1 a9 ⟨by omega, by omega⟩
  have hkeep : ∀ τ : mS, rqF (su σ 0 0 0) τ qs.length → (∀ f, 3 ≤ f → f ≤ 14 → τ f = σ f) := fun τ hF f f1 f2 => by rw [hF.1 f (by simp; omega), su_row (by omega)]
  refine ⟨fun e he => ?_, fun l he => ?_⟩
  · obtain ⟨τ, r1, r2, r3, r4, r5⟩ := hz.1 e he
    have hk := hkeep τ r5
    have h0 : qsR (su σ 0 0 0) qs := (mdR_0 hm).2.2.2.2.2.2
    exact ⟨τ, r1, r2, r3, tOK_0 _, ⟨by rw [hk 13 (by decide) (by decide)]; exact a3, mV_eq (fun f f1 f2 => hk f f1 (by omega)) a4, a5⟩, ⟨by rw [hk 14 (by decide) (by decide)]; exact a6, mV_eq (fun f f1 f2 => hk f f1 (by omega)) a7, a8⟩, r4, a10, qsR_rq r5 rfl h0⟩
  · obtain ⟨τ, r1, r2, r3, r4, r5, r6, r7, r8⟩ := hz.2 l he
    have hk := hkeep τ r8
    have h0 : qsR (su σ 0 0 0) qs := (mdR_0 hm).2.2.2.2.2.2
    have hR := (sQs_R a2 161 [] 0 0 (Int.le_refl 0) a2.1 (by decide) (fun st h => absurd h List.not_mem_nil) (by decide) (by have := a2.2.1; omega)).2 l he
    refine ⟨τ, r1, r2, r3, tOK_0 _, ⟨by rw [hk 13 (by decide) (by decide)]; exact a3, mV_eq (fun f f1 f2 => hk f f1 (by omega)) a4, a5⟩, ⟨by rw [hk 14 (by decide) (by decide)]; exact a6, mV_eq (fun f f1 f2 => hk f f1 (by omega)) a7, a8⟩, by rw [r4, List.length_append]; simp, by rw [List.length_append]; show qs.length + 1 ≤ 12; omega, fun j l' hj => ?_⟩
    by_cases hjl : j < qs.length
    · rw [List.getElem?_append_left hjl] at hj
      exact qsR_rq r8 rfl h0 j l' hj
    · have hj2 : j = qs.length := by
        have := (List.getElem?_eq_some_iff.mp hj).1
        rw [List.length_append] at this
        have : j < qs.length + 1 := this
        omega
      subst hj2
      rw [List.getElem?_append_right (Nat.le_refl _), Nat.sub_self] at hj
      have hj : l = l' := Option.some.inj hj
      subst hj
      exact ⟨r6, r7, r5, hR.2, hR.1⟩
theorem mo_run {β : Bool} {d : Nat} {h : jx_H} {σ : mS} (hl : 49 ≤ h.length) {n q : Int} {doc res : vT} {qs : List (List sT)} (hm : mdR σ n doc res qs) (hq : mr q) : (q < 0 ∨ (qs.length : Int) ≤ q → jx_r (jz β) jw_M (d + 5) 245 (0, [some (.ref 15), some (.int (Int32.ofInt (q))), none, none, none, none, none, none], [], ml_mk h σ) (ml_mk h (su σ 0 0 1), .inl (some (.int (Int32.ofInt (0)))))) ∧ (∀ l, 0 ≤ q → qs[q.toNat]? = some l → ∃ τ : mS, jx_r (jz β) jw_M (d + 5) 245 (0, [some (.ref 15), some (.int (Int32.ofInt (q))), none, none, none, none, none, none], [], ml_mk h σ) (ml_mk h (τ), .inl (some (.int (Int32.ofInt ((runS l doc).1))))) ∧ τ 0 0 = 0 ∧ mdR τ n doc (runS l doc).2 qs) := by
  obtain ⟨a1, a2, ⟨a3, a4, a5⟩, ⟨a6, a7, a8⟩, a9, a10, a11⟩ := id hm
  refine ⟨fun h => jn_run_no (d := d + 5) hl hq ⟨by omega, by omega⟩ a9 h, fun l h0 hl2 => ?_⟩
  have hlt := (List.getElem?_eq_some_iff.mp hl2).1
  obtain ⟨b1, b2, b3, b4, b5⟩ := a11 q.toNat l hl2
  rw [show ((q.toNat : Nat) : Int) = q by omega] at b1 b2 b3
  obtain ⟨τ, r1, r2, r3, r4, r5⟩ := jn_run_ok (β := β) (d := d) (h := h) hl ⟨h0, by omega⟩ (by omega) a9 a3 a4 a5.1 (vI_ct a5) b1 b3 (by omega)
  have hk : ∀ f, f ∈ [1, 2, 13, 15, 16, 17, 18, 19, 20, 21, 22, 23, 24, 25, 26, 27] → τ f = σ f := fun f hf => by
    simp only [List.mem_cons, List.mem_nil_iff, or_false] at hf
    rw [r5.2 f (by simp; omega), su_row (by omega)]
  exact ⟨τ, r1, r2, by rw [hk 2 (by decide)]; exact a1, by rw [hk 1 (by decide)]; exact a2, ⟨by rw [hk 13 (by decide)]; exact a3, mV_z (fun f v hv f1 f2 => by rw [r5.1 f v hv f1 f2, su_nf (by omega)]) a4, a5⟩, ⟨r3, r4, runS_I l doc b5 a5⟩, by rw [hk 15 (by decide)]; exact a9, a10, qsR_fr (fun f f1 f2 => hk f (by simp; omega)) a11⟩
theorem mo_keep {β : Bool} {d : Nat} {h : jx_H} {σ : mS} (hl : 49 ≤ h.length) {n : Int} {doc res : vT} {qs : List (List sT)} (hm : mdR σ n doc res qs) : ∃ τ : mS, jx_r (jz β) jw_M (d + 2) 273 (0, [some (.ref 15)], [], ml_mk h σ) (ml_mk h (τ), .inl (some (.int (Int32.ofInt (res.1.1))))) ∧ mdR τ n res res qs := by
  obtain ⟨a1, a2, ⟨a3, a4, a5⟩, ⟨a6, a7, a8⟩, a9, a10, a11⟩ := id hm
  have hd : ∀ v, Zn 1 v → ¬ Zn 0 v := fun v hv h => by
    have h1 := hv.1
    have h2 := h.2
    omega
  obtain ⟨τ, r1, r2, r3, r4, r5⟩ := jn_keep (β := β) (d := d) (h := h) hl (Zn_ix ⟨by decide, by decide⟩) (Zn_ix ⟨by decide, by decide⟩) a6 a7 a8.1.1 hd hd (by have := vI_ct a8; omega)
  have hk : ∀ f, f ∈ [1, 2, 14, 15, 16, 17, 18, 19, 20, 21, 22, 23, 24, 25, 26, 27] → su τ 13 0 (170 * 0) f = σ f := fun f hf => by
    simp only [List.mem_cons, List.mem_nil_iff, or_false] at hf
    rw [su_row (by omega), r5 f (by omega) (by omega) (by omega), su_row (by omega)]
  refine ⟨su τ 13 0 (170 * 0), r1, by rw [hk 2 (by decide)]; exact a1, by rw [hk 1 (by decide)]; exact a2, ⟨su_eq _ _ _ _, mV_eq (fun f f1 f2 => su_row (by omega)) r2, a8⟩, ⟨by rw [hk 14 (by decide)]; exact a6, mV_z (fun f v hv f1 f2 => ?_) a7, a8⟩, by rw [hk 15 (by decide)]; exact a9, a10, qsR_fr (fun f f1 f2 => hk f (by simp; omega)) a11⟩
  rw [su_nf (by omega), r3 f v (hd v hv) f1 f2, su_nf (by omega)]
def resS (v : vT) (x : Int) : Int := if x = 0 then v.1.1 else if x = 1 then vext v.1 v.2 else if x = 2 then (vl v : Int) else if x = 3 then 1 + (fct v.2 : Int) else -1
def wrtS (v : vT) (x : Int) : Int := if 0 ≤ x ∧ x < (wV v.1 v.2).length then (wV v.1 v.2).getD x.toNat 0 else -1
def aboS (n : Int) (doc : vT) (q : Int) (x : Int) : Int := if x = 0 then n else if x = 1 then q else if x = 2 then doc.1.1 else if x = 3 then 1 + (fct doc.2 : Int) else -1
theorem mo_result {β : Bool} {d : Nat} {h : jx_H} {σ : mS} (hl : 49 ≤ h.length) {n x : Int} {doc res : vT} {qs : List (List sT)} (hm : mdR σ n doc res qs) (hx : mr x) : ∃ τ : mS, jx_r (jz β) jw_M (d + 6) 274 (0, [some (.ref 15), some (.int (Int32.ofInt (x)))], [], ml_mk h σ) (ml_mk h (τ), .inl (some (.int (Int32.ofInt (resS res x))))) ∧ mdR τ n doc res qs := by
  obtain ⟨a1, a2, ⟨a3, a4, a5⟩, ⟨a6, a7, a8⟩, a9, a10, a11⟩ := id hm
  have hct := vI_ct a8
  have hZ := Zn_ix (z := 1) ⟨by decide, by decide⟩
  unfold resS
  by_cases h0 : x = 0
  · subst h0
    exact ⟨_, jn_result0 (d := d + 6) hl hZ hZ a6 a7 a8.1.1, mdR_0 hm⟩
  rw [if_neg h0]
  by_cases h1 : x = 1
  · subst h1
    exact ⟨_, jn_result1 (d := d + 4) hl hZ hZ a6 a7 a8.1.1, mdR_0 hm⟩
  rw [if_neg h1]
  by_cases h2 : x = 2
  · subst h2
    obtain ⟨τ, r1, r2, r3⟩ := jn_result2 (β := β) (d := d) (h := h) hl hZ hZ a6 a7 a8.1.1 a8.1.2 (by omega) (by have := a8.2.2.2; have : (wV res.1 res.2).length ≤ 160 := this; omega)
    exact ⟨τ, r1, mdR_q (by decide) r2 hm⟩
  rw [if_neg h2]
  by_cases h3 : x = 3
  · subst h3
    obtain ⟨τ, r1, r2, r3⟩ := jn_result3 (β := β) (d := d + 5) (h := h) hl hZ hZ a6 a7 a8.1.1 (by omega)
    exact ⟨τ, r1, mdR_q (by decide) r2 hm⟩
  rw [if_neg h3]
  exact ⟨_, jn_resultd (d := d + 6) hl hx (by omega), mdR_0 hm⟩
theorem mo_written {β : Bool} {d : Nat} {h : jx_H} {σ : mS} (hl : 49 ≤ h.length) {n x : Int} {doc res : vT} {qs : List (List sT)} (hm : mdR σ n doc res qs) (hx : mr x) : ∃ τ : mS, jx_r (jz β) jw_M (d + 6) 280 (0, [some (.ref 15), some (.int (Int32.ofInt (x)))], [], ml_mk h σ) (ml_mk h (τ), .inl (some (.int (Int32.ofInt (wrtS res x))))) ∧ mdR τ n doc res qs := by
  obtain ⟨a1, a2, ⟨a3, a4, a5⟩, ⟨a6, a7, a8⟩, a9, a10, a11⟩ := id hm
  have hct := vI_ct a8
  have hZ := Zn_ix (z := 1) ⟨by decide, by decide⟩
  obtain ⟨τ, r1, r2, r3⟩ := jn_written (β := β) (d := d) (h := h) hl hZ hZ a6 a7 a8.1.1 a8.1.2 (by omega) (by have := a8.2.2.2; have : (wV res.1 res.2).length ≤ 160 := this; omega) hx
  exact ⟨τ, r1, mdR_q (by decide) r2 hm⟩
theorem mo_about {β : Bool} {d : Nat} {h : jx_H} {σ : mS} (hl : 49 ≤ h.length) {n x : Int} {doc res : vT} {qs : List (List sT)} (hm : mdR σ n doc res qs) (hx : mr x) : ∃ τ : mS, jx_r (jz β) jw_M (d + 1) 281 (0, [some (.ref 15), some (.int (Int32.ofInt (x)))], [], ml_mk h σ) (ml_mk h (τ), .inl (some (.int (Int32.ofInt (aboS n doc qs.length x))))) ∧ mdR τ n doc res qs := by
  obtain ⟨a1, a2, ⟨a3, a4, a5⟩, ⟨a6, a7, a8⟩, a9, a10, a11⟩ := id hm
  have hct := vI_ct a5
  have hZ := Zn_ix (z := 0) ⟨by decide, by decide⟩
  unfold aboS
  by_cases h0 : x = 0
  · subst h0
    exact ⟨_, jn_about0 (d := d + 1) hl a1, mdR_0 hm⟩
  rw [if_neg h0]
  by_cases h1 : x = 1
  · subst h1
    exact ⟨_, jn_about1 (d := d + 1) hl a9, mdR_0 hm⟩
  rw [if_neg h1]
  by_cases h2 : x = 2
  · subst h2
    exact ⟨_, jn_about2 (d := d + 1) hl hZ hZ a3 a4 a5.1.1, mdR_0 hm⟩
  rw [if_neg h2]
  by_cases h3 : x = 3
  · subst h3
    obtain ⟨τ, r1, r2, r3⟩ := jn_about3 (β := β) (d := d) (h := h) hl hZ hZ a3 a4 a5.1.1 (by omega)
    exact ⟨τ, r1, mdR_q (by decide) r2 hm⟩
  rw [if_neg h3]
  exact ⟨_, jn_aboutd (d := d + 1) hl hx (by omega), mdR_0 hm⟩
