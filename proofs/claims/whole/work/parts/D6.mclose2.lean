/-! ===== close (printed by program: gen55.py) ===== -/
/-- nodes or cells of another zone, and of the work zone up to now -/
def zA (A0 : Int → Prop) (nn : Int) : Int → Prop := fun v => A0 v ∨ In 680 (170 * 4 + nn) v
theorem zA_mono {A0 : Int → Prop} {n m : Int} (h : n ≤ m) : ∀ v, zA A0 n v → zA A0 m v := fun v hv => by
  rcases hv with hv | hv
  · exact Or.inl hv
  · exact Or.inr ⟨hv.1, by have := hv.2; omega⟩
theorem zA_r {A0 : Int → Prop} {n : Int} (h0 : ∀ v, A0 v → 0 ≤ v ∧ v < 680) (hn : 0 ≤ n) : ∀ v, zA A0 n v → 0 ≤ v ∧ v < 170 * 4 + n := fun v hv => by
  rcases hv with hv | hv
  · have := h0 v hv
    exact ⟨this.1, by omega⟩
  · exact ⟨by have := hv.1; omega, hv.2⟩
theorem zA_ix {A0 : Int → Prop} {n : Int} (h0 : ∀ v, A0 v → 0 ≤ v ∧ v < 680) (hn : 0 ≤ n) (h1 : 170 * 4 + n ≤ 1740) : mIx (zA A0 n) := fun v hv => by
  have := zA_r h0 hn v hv
  exact ⟨this.1, by omega⟩
theorem mO_zz {σ τ : mS} {A B : Int → Prop} {N C w : Int} {x : Option vT} (h7 : ∀ f v, 3 ≤ f → f ≤ 7 → v < N → τ f v = σ f v) (h10 : ∀ f x, 8 ≤ f → f ≤ 10 → x < C → τ f x = σ f x) (hA : ∀ v, A v → v < N) (hB : ∀ x, B x → x < C) (h : mO σ A B w x) : mO τ A B w x := by
  have hA3 : ∀ v, A v → τ 3 v = σ 3 v ∧ τ 4 v = σ 4 v ∧ τ 5 v = σ 5 v ∧ τ 6 v = σ 6 v ∧ τ 7 v = σ 7 v := fun v hv => ⟨h7 3 v (by decide) (by decide) (hA v hv), h7 4 v (by decide) (by decide) (hA v hv), h7 5 v (by decide) (by decide) (hA v hv), h7 6 v (by decide) (by decide) (hA v hv), h7 7 v (by decide) (by decide) (hA v hv)⟩
  cases x with
  | none => exact h
  | some y =>
    obtain ⟨a1, ⟨n1, n2, n3, n4⟩, hF⟩ := h
    obtain ⟨x1, x2, x3, x4, x5⟩ := hA3 w a1
    exact ⟨a1, ⟨x1.trans n1, x2.trans n2, x3.trans n3, x5.trans n4⟩, by rw [x4]; exact mF_frame hA3 (fun x hx => ⟨h10 8 x (by decide) (by decide) (hB x hx), h10 9 x (by decide) (by decide) (hB x hx), h10 10 x (by decide) (by decide) (hB x hx)⟩) _ _ hF⟩
/-- what close leaves alone: the nodes and cells of before, the slots outside a to b -/
def clF (σ τ : mS) (nn cc a b : Int) : Prop := (∀ f v, 3 ≤ f → f ≤ 7 → v < 170 * 4 + nn → τ f v = σ f v) ∧ (∀ f x, 8 ≤ f → f ≤ 10 → x < 170 * 4 + cc → τ f x = σ f x) ∧ (∀ v, v < a ∨ b ≤ v → τ 37 v = σ 37 v ∧ τ 39 v = σ 39 v) ∧ (∀ f, f ∉ [3, 4, 5, 6, 7, 8, 9, 10, 11, 12, 37, 39] → τ f = σ f) ∧ (∀ v, ¬ v = 4 → τ 11 v = σ 11 v ∧ τ 12 v = σ 12 v)
theorem clF_refl (σ : mS) (nn cc a b : Int) : clF σ σ nn cc a b := ⟨fun _ _ _ _ _ => rfl, fun _ _ _ _ _ => rfl, fun _ _ => ⟨rfl, rfl⟩, fun _ _ => rfl, fun _ _ => ⟨rfl, rfl⟩⟩
theorem clF_trans {σ τ υ : mS} {nn cc n2 c2 a b a2 b2 a3 b3 : Int} (h : clF σ τ nn cc a b) (h2 : clF τ υ n2 c2 a2 b2) (hn : nn ≤ n2) (hc : cc ≤ c2) (ha : a3 ≤ a) (ha2 : a3 ≤ a2) (hb : b ≤ b3) (hb2 : b2 ≤ b3) : clF σ υ nn cc a3 b3 := ⟨fun f v f1 f2 hv => (h2.1 f v f1 f2 (by omega)).trans (h.1 f v f1 f2 hv), fun f v f1 f2 hv => (h2.2.1 f v f1 f2 (by omega)).trans (h.2.1 f v f1 f2 hv), fun v hv => ⟨(h2.2.2.1 v (by omega)).1.trans (h.2.2.1 v (by omega)).1, (h2.2.2.1 v (by omega)).2.trans (h.2.2.1 v (by omega)).2⟩, fun f hf => (h2.2.2.2.1 f hf).trans (h.2.2.2.1 f hf), fun v hv => ⟨(h2.2.2.2.2 v hv).1.trans (h.2.2.2.2 v hv).1, (h2.2.2.2.2 v hv).2.trans (h.2.2.2.2 v hv).2⟩⟩
theorem mO_cl {σ τ : mS} {A0 B0 : Int → Prop} {nn cc n2 c2 a b w : Int} {x : Option vT} (hA0 : ∀ v, A0 v → 0 ≤ v ∧ v < 680) (hB0 : ∀ v, B0 v → 0 ≤ v ∧ v < 680) (hn0 : 0 ≤ nn) (hc0 : 0 ≤ cc) (h : clF σ τ nn cc a b) (hn : nn ≤ n2) (hc : cc ≤ c2) (hx : mO σ (zA A0 nn) (zA B0 cc) w x) : mO τ (zA A0 n2) (zA B0 c2) w x := mO_mono (zA_mono hn) (zA_mono hc) (mO_zz h.1 h.2.1 (fun v hv => (zA_r hA0 hn0 v hv).2) (fun v hv => (zA_r hB0 hc0 v hv).2) hx)
def ceq (top : List lT) (k : Int) : Nat := (top.filter fun s => decide (s.1 = k)).length
def cge (top : List lT) (k : Int) : Nat := (top.filter fun s => decide (k ≤ s.1)).length
theorem cge_s (k : Int) : ∀ top : List lT, cge top k = ceq top k + cge top (k + 1)
  | [] => rfl
  | s :: l => by
    have ih := cge_s k l
    unfold cge ceq at ih ⊢
    by_cases h1 : s.1 = k
    · rw [List.filter_cons_of_pos (p := fun s : lT => decide (k ≤ s.1)) (a := s) (decide_eq_true (by omega)), List.filter_cons_of_pos (p := fun s : lT => decide (s.1 = k)) (a := s) (decide_eq_true h1), List.filter_cons_of_neg (p := fun s : lT => decide (k + 1 ≤ s.1)) (a := s) (fun z => by have := of_decide_eq_true z; omega)]
      simp only [List.length_cons]
      omega
    · by_cases h2 : k ≤ s.1
      · rw [List.filter_cons_of_pos (p := fun s : lT => decide (k ≤ s.1)) (a := s) (decide_eq_true h2), List.filter_cons_of_neg (p := fun s : lT => decide (s.1 = k)) (a := s) (fun z => h1 (of_decide_eq_true z)), List.filter_cons_of_pos (p := fun s : lT => decide (k + 1 ≤ s.1)) (a := s) (decide_eq_true (by omega))]
        simp only [List.length_cons]
        omega
      · rw [List.filter_cons_of_neg (p := fun s : lT => decide (k ≤ s.1)) (a := s) (fun z => h2 (of_decide_eq_true z)), List.filter_cons_of_neg (p := fun s : lT => decide (s.1 = k)) (a := s) (fun z => h1 (of_decide_eq_true z)), List.filter_cons_of_neg (p := fun s : lT => decide (k + 1 ≤ s.1)) (a := s) (fun z => by have := of_decide_eq_true z; omega)]
        exact ih
theorem cge_le (top : List lT) (k : Int) : cge top k ≤ top.length := List.length_filter_le ..
theorem clo1_le (top : List lT) (k : Int) : (clo1 top k).length ≤ ceq top k := List.length_filterMap_le ..
theorem clo1_ok {top : List lT} (hv : ∀ t ∈ top, vokO t.2) (k : Int) : ∀ v ∈ clo1 top k, vok v := fun v h => by
  unfold clo1 at h
  obtain ⟨t, ht, hn⟩ := List.mem_filterMap.mp h
  exact hv t (List.mem_filter.mp ht).1 v.1 v.2 (nnO_some hn)
theorem jn_cl_item {β : Bool} {d : Nat} {h : jx_H} {σ : mS} (hl : 49 ≤ h.length) {A0 B0 : Int → Prop} (hA0 : ∀ v, A0 v → 0 ≤ v ∧ v < 680) (hB0 : ∀ v, B0 v → 0 ≤ v ∧ v < 680) {sp k sl nn cc : Int} {c3 c4 c5 : Option Value} {b : Bool} {top : List lT} (hT : tpR σ (zA A0 nn) (zA B0 cc) sp top) (hv : ∀ t ∈ top, vokO t.2) (hfr : ∀ t ∈ top, 0 ≤ t.1 ∧ t.1 ≤ 400) (e39 : σ 39 k = if b = true then 1 else 2) (e36 : σ 36 0 = sl) (hsl : sp + top.length = sl) (hs4 : sl ≤ 400) (hk : 0 ≤ k ∧ k < sp) (e11 : σ 11 4 = nn) (e12 : σ 12 4 = cc) (hn0 : 0 ≤ nn) (hc0 : 0 ≤ cc) (hn1 : 170 * 4 + nn < 1740) (hc1 : 170 * 4 + cc + ceq top k ≤ 1740) :
    ∃ (τ : mS) (nn' cc' : Int) (c3' c4' c5' : Option Value), (∀ res, jx_r (jz β) jw_M (d + 1) 262 (152, [some (.ref 15), some (.int (Int32.ofInt (sp))), some (.int (Int32.ofInt (k))), c3', c4', c5'], [], ml_mk h τ) res → jx_r (jz β) jw_M (d + 1) 262 (40, [some (.ref 15), some (.int (Int32.ofInt (sp))), some (.int (Int32.ofInt (k))), c3, c4, c5], [], ml_mk h σ) res) ∧ clF σ τ nn cc k (k + 1) ∧ τ 11 4 = nn' ∧ τ 12 4 = cc' ∧ (nn ≤ nn' ∧ nn' ≤ nn + 1) ∧ (cc ≤ cc' ∧ cc' ≤ cc + ceq top k) ∧ mO τ (zA A0 nn') (zA B0 cc') (τ 37 k) (if b = true then some (lsV (clo1 top k)) else none) := by
  obtain ⟨k0, k1⟩ := hk
  have hw : ∀ (τ : mS) (x y : Int), clF τ (su (su τ 37 k x) 39 k y) nn cc k (k + 1) := fun τ x y => ⟨fun f v f1 f2 _ => by rw [su_nf (by omega), su_nf (by omega)], fun f v f1 f2 _ => by rw [su_nf (by omega), su_nf (by omega)], fun v hv => ⟨by rw [su_nf (by decide), su_ni (by omega)], by rw [su_ni (by omega), su_nf (by decide)]⟩, fun f hf => by
    simp only [List.mem_cons, List.mem_nil_iff, or_false, not_or] at hf
    rw [su_row (by omega), su_row (by omega)], fun v _ => ⟨by rw [su_nf (by decide), su_nf (by decide)], by rw [su_nf (by decide), su_nf (by decide)]⟩⟩
  by_cases hb : b = true
  · rw [if_pos hb] at e39 ⊢
    have hN : 170 * 4 + σ 11 4 = 170 * 4 + nn := by rw [e11]
    have hAr := zA_r hA0 hn0
    have hBr := zA_r hB0 hc0
    have hAL : ¬ zA A0 nn (170 * 4 + nn) := fun z => by have := (hAr _ z).2; omega
    have q := mNode_nw (k := 5) (x := 0) (t := 0) hN
    have q12 : mNode σ 4 5 0 0 12 = σ 12 := q.2.1 12 (by decide)
    obtain ⟨τ1, bh', D', r1, r2, r3, r4, r5, r6, r7, r8⟩ := jn_cl_in (β := β) (d := d) (h := h) (A := zA A0 nn) (B := zA B0 cc) (L := 170 * 4 + nn) (z0 := 170 * 4 + cc) (k := k) (sp := sp) (sl := sl) hl ⟨by omega, hn1⟩ (zA_ix hA0 hn0 (by omega)) (by omega) (fun x hx => (hBr x hx).2) ⟨k0, by omega⟩ hs4 top [] sp cc (-1) (mNode σ 4 5 0 0) (fun _ => False) (lb_new hAL ⟨by rw [mNode_3, hN, if_pos rfl], by rw [mNode_4, hN, if_pos rfl], by rw [mNode_5, hN, if_pos rfl]; rfl, by rw [mNode_7, hN, if_pos rfl]; rfl⟩ (by rw [mNode_6, hN, if_pos rfl])) (fun _ h => absurd h id) (tpR_fr (fun w x hx => mO_nw q (fun v hv => (hAr v hv).2) hx) top sp (fun j _ _ => ⟨by rw [q.2.1 37 (by decide)], by rw [q.2.1 38 (by decide)]⟩) hT) hv hfr hsl (by omega) (by rw [q.2.1 36 (by decide)]; exact e36) (by rw [q12]; exact e12) hc0 (by omega) (by have := clo1_le top k; omega)
    rw [List.nil_append] at r2
    have hle := clo1_le top k
    have f1 : clF σ τ1 nn cc k (k + 1) := ⟨fun f v f1 f2 hv => (r5 f v f1 f2 (by omega)).trans (q.1 f v f1 f2 hv), fun f x f1 f2 hx => (r6 f x f1 f2 hx).trans (by rw [q.2.1 f (by simp; omega)]), fun v _ => ⟨by rw [r7 37 (by decide), q.2.1 37 (by decide)], by rw [r7 39 (by decide), q.2.1 39 (by decide)]⟩, fun f hf => by
      simp only [List.mem_cons, List.mem_nil_iff, or_false, not_or] at hf
      rw [r7 f (by simp; omega), q.2.1 f (by simp; omega)], fun v hv => ⟨by rw [r7 11 (by decide), q.2.2 v hv], by rw [r8 v hv, q12]⟩⟩
    have f2 := clF_trans f1 (hw τ1 (170 * 4 + nn) 0) (Int.le_refl nn) (Int.le_refl cc) (Int.le_refl k) (Int.le_refl k) (Int.le_refl _) (Int.le_refl _)
    refine ⟨su (su τ1 37 k (170 * 4 + nn)) 39 k 0, nn + 1, cc + (clo1 top k).length, some (.int (Int32.ofInt (170 * 4 + nn))), some (.int (Int32.ofInt (bh'))), some (.int (Int32.ofInt (sl))), fun res kk => ?_, f2, ?_, ?_, ⟨by omega, by omega⟩, ⟨by omega, by omega⟩, ?_⟩
    · skip
      refine jr_1 jm_262 (show jw_cd cd_262 40 = some (.iload_n 2) by decide +kernel) rfl ?_
      refine jr_1 jm_262 (show jw_cd cd_262 41 = some (.iload_n 1) by decide +kernel) rfl ?_
      refine jr_1 jm_262 (show jw_cd cd_262 42 = some (.if_icmp .ge 116) by decide +kernel) (mb_f (q := .ge) (a := k) (b := sp) (by show ¬ (sp ≤ k); omega) ⟨by omega, by omega⟩ ⟨by omega, by omega⟩ (by decide)) ?_
      refine jr_1 jm_262 (show jw_cd cd_262 45 = some (.aload_n 0) by decide +kernel) rfl ?_
      refine jr_1 jm_262 (show jw_cd cd_262 46 = some (.getfield 95) by decide +kernel) (mg_a hl (a := 44) (show jw_fld 34 95 16 = some 39 by decide +kernel) (by decide) (by decide)) ?_
      refine jr_1 jm_262 (show jw_cd cd_262 49 = some (.iload_n 2) by decide +kernel) rfl ?_
      refine jr_1 jm_262 (show jw_cd cd_262 50 = some (.iaload) by decide +kernel) (ma_i hl (i := k) (e := 1) 39 (by omega) (by show _ < ((400 : Nat) : Int); omega) e39 (by decide) (by decide) (by decide)) ?_
      refine jr_1 jm_262 (show jw_cd cd_262 51 = some (.iconst 2) by decide +kernel) rfl ?_
      refine jr_1 jm_262 (show jw_cd cd_262 52 = some (.if_icmp .ne 13) by decide +kernel) (mb_t (q := .ne) (a := 1) (b := 2) (t := 65) (by show ¬ (1 = 2); omega) ⟨by omega, by omega⟩ ⟨by omega, by omega⟩ (by decide) (by decide)) ?_
      refine jr_1 jm_262 (show jw_cd cd_262 65 = some (.aload_n 0) by decide +kernel) rfl ?_
      refine jr_1 jm_262 (show jw_cd cd_262 66 = some (.iconst 4) by decide +kernel) rfl ?_
      refine jr_1 jm_262 (show jw_cd cd_262 67 = some (.iconst 5) by decide +kernel) rfl ?_
      refine jr_1 jm_262 (show jw_cd cd_262 68 = some (.iconst 0) by decide +kernel) rfl ?_
      refine jr_1 jm_262 (F2 := (70, [some (.ref 15), some (.int (Int32.ofInt (sp))), some (.int (Int32.ofInt (k))), c3, c4, c5], [.long (Int64.ofInt (0)), .int (Int32.ofInt (0)), .int (Int32.ofInt (5)), .int (Int32.ofInt (4)), .ref 15], ml_mk h σ)) (show jw_cd cd_262 69 = some (.lconst 0) by decide +kernel) rfl ?_
      refine jr_c jm_262 (show jw_cd cd_262 70 = some (.invokevirtual 110) by decide +kernel) (mc_v hl (n := 4) (m2 := 208) (bs := [.int (Int32.ofInt (4)), .int (Int32.ofInt (5)), .int (Int32.ofInt (0)), .long (Int64.ofInt (0))]) (r := []) (show jw_find jw_cvT 34 110 = some (4, [(16, 208)]) by decide +kernel) (by decide) rfl rfl rfl) jm_208 ⟨Nat.le_of_ble_eq_true rfl, by decide⟩ (jn_nodeM hl ⟨by decide, by decide⟩ (m := nn) e11 hn0 (by omega)) ?_
      refine jr_1 jm_262 (F2 := (74, [some (.ref 15), some (.int (Int32.ofInt (sp))), some (.int (Int32.ofInt (k))), some (.int (Int32.ofInt (170 * 4 + nn))), c4, c5], [], ml_mk h (mNode σ 4 5 0 0))) (show jw_cd cd_262 73 = some (.istore_n 3) by decide +kernel) rfl ?_
      refine jr_1 jm_262 (show jw_cd cd_262 74 = some (.iconst (-1)) by decide +kernel) rfl ?_
      refine jr_1 jm_262 (F2 := (77, [some (.ref 15), some (.int (Int32.ofInt (sp))), some (.int (Int32.ofInt (k))), some (.int (Int32.ofInt (170 * 4 + nn))), some (.int (Int32.ofInt (-1))), c5], [], ml_mk h (mNode σ 4 5 0 0))) (show jw_cd cd_262 75 = some (.istore 4) by decide +kernel) rfl ?_
      refine jr_1 jm_262 (show jw_cd cd_262 77 = some (.iload_n 1) by decide +kernel) rfl ?_
      refine jr_1 jm_262 (F2 := (80, [some (.ref 15), some (.int (Int32.ofInt (sp))), some (.int (Int32.ofInt (k))), some (.int (Int32.ofInt (170 * 4 + nn))), some (.int (Int32.ofInt (-1))), some (.int (Int32.ofInt (sp)))], [], ml_mk h (mNode σ 4 5 0 0))) (show jw_cd cd_262 78 = some (.istore 5) by decide +kernel) rfl ?_
      refine r1 _ ?_
      refine jr_1 jm_262 (show jw_cd cd_262 138 = some (.aload_n 0) by decide +kernel) rfl ?_
      refine jr_1 jm_262 (show jw_cd cd_262 139 = some (.getfield 89) by decide +kernel) (mg_a hl (a := 42) (show jw_fld 34 89 16 = some 37 by decide +kernel) (by decide) (by decide)) ?_
      refine jr_1 jm_262 (show jw_cd cd_262 142 = some (.iload_n 2) by decide +kernel) rfl ?_
      refine jr_1 jm_262 (show jw_cd cd_262 143 = some (.iload_n 3) by decide +kernel) rfl ?_
      refine jr_1 jm_262 (show jw_cd cd_262 144 = some (.iastore) by decide +kernel) (ms_i hl (i := k) (x := 170 * 4 + nn) 37 (by omega) (by show _ < ((400 : Nat) : Int); omega) (by decide) (by decide) (by decide)) ?_
      refine jr_1 jm_262 (show jw_cd cd_262 145 = some (.aload_n 0) by decide +kernel) rfl ?_
      refine jr_1 jm_262 (show jw_cd cd_262 146 = some (.getfield 95) by decide +kernel) (mg_a hl (a := 44) (show jw_fld 34 95 16 = some 39 by decide +kernel) (by decide) (by decide)) ?_
      refine jr_1 jm_262 (show jw_cd cd_262 149 = some (.iload_n 2) by decide +kernel) rfl ?_
      refine jr_1 jm_262 (show jw_cd cd_262 150 = some (.iconst 0) by decide +kernel) rfl ?_
      refine jr_1 jm_262 (show jw_cd cd_262 151 = some (.iastore) by decide +kernel) (ms_i hl (i := k) (x := 0) 39 (by omega) (by show _ < ((400 : Nat) : Int); omega) (by decide) (by decide) (by decide)) ?_
      exact kk
    · rw [su_nf (by decide), su_nf (by decide), r7 11 (by decide), mNode_11, if_pos rfl, e11]
    · rw [su_nf (by decide), su_nf (by decide), r4]
    · rw [su_nf (by decide), su_eq]
      refine mO_eq (σ := τ1) (fun f f1 f2 => by rw [su_row (by omega), su_row (by omega)]) ?_
      exact lb_fin r2 (zA_mono (by omega)) (zA_mono (by omega)) (fun x hx => Or.inr ⟨by have := (r3 x hx).1; omega, by have := (r3 x hx).2; omega⟩) (Or.inr ⟨by omega, by omega⟩)
  · rw [if_neg hb] at e39 ⊢
    refine ⟨su (su σ 37 k (-1)) 39 k 0, nn, cc, c3, c4, c5, fun res kk => ?_, hw σ (-1) 0, ?_, ?_, ⟨by omega, by omega⟩, ⟨by omega, by omega⟩, ?_⟩
    · skip
      refine jr_1 jm_262 (show jw_cd cd_262 40 = some (.iload_n 2) by decide +kernel) rfl ?_
      refine jr_1 jm_262 (show jw_cd cd_262 41 = some (.iload_n 1) by decide +kernel) rfl ?_
      refine jr_1 jm_262 (show jw_cd cd_262 42 = some (.if_icmp .ge 116) by decide +kernel) (mb_f (q := .ge) (a := k) (b := sp) (by show ¬ (sp ≤ k); omega) ⟨by omega, by omega⟩ ⟨by omega, by omega⟩ (by decide)) ?_
      refine jr_1 jm_262 (show jw_cd cd_262 45 = some (.aload_n 0) by decide +kernel) rfl ?_
      refine jr_1 jm_262 (show jw_cd cd_262 46 = some (.getfield 95) by decide +kernel) (mg_a hl (a := 44) (show jw_fld 34 95 16 = some 39 by decide +kernel) (by decide) (by decide)) ?_
      refine jr_1 jm_262 (show jw_cd cd_262 49 = some (.iload_n 2) by decide +kernel) rfl ?_
      refine jr_1 jm_262 (show jw_cd cd_262 50 = some (.iaload) by decide +kernel) (ma_i hl (i := k) (e := 2) 39 (by omega) (by show _ < ((400 : Nat) : Int); omega) e39 (by decide) (by decide) (by decide)) ?_
      refine jr_1 jm_262 (show jw_cd cd_262 51 = some (.iconst 2) by decide +kernel) rfl ?_
      refine jr_1 jm_262 (show jw_cd cd_262 52 = some (.if_icmp .ne 13) by decide +kernel) (mb_f (q := .ne) (a := 2) (b := 2) (by show ¬ (¬ (2 = 2)); omega) ⟨by omega, by omega⟩ ⟨by omega, by omega⟩ (by decide)) ?_
      refine jr_1 jm_262 (show jw_cd cd_262 55 = some (.aload_n 0) by decide +kernel) rfl ?_
      refine jr_1 jm_262 (show jw_cd cd_262 56 = some (.getfield 89) by decide +kernel) (mg_a hl (a := 42) (show jw_fld 34 89 16 = some 37 by decide +kernel) (by decide) (by decide)) ?_
      refine jr_1 jm_262 (show jw_cd cd_262 59 = some (.iload_n 2) by decide +kernel) rfl ?_
      refine jr_1 jm_262 (show jw_cd cd_262 60 = some (.iconst (-1)) by decide +kernel) rfl ?_
      refine jr_1 jm_262 (show jw_cd cd_262 61 = some (.iastore) by decide +kernel) (ms_i hl (i := k) (x := -1) 37 (by omega) (by show _ < ((400 : Nat) : Int); omega) (by decide) (by decide) (by decide)) ?_
      refine jr_1 jm_262 (show jw_cd cd_262 62 = some (.goto 83) by decide +kernel) (ju_go (t := 145) (by decide)) ?_
      refine jr_1 jm_262 (show jw_cd cd_262 145 = some (.aload_n 0) by decide +kernel) rfl ?_
      refine jr_1 jm_262 (show jw_cd cd_262 146 = some (.getfield 95) by decide +kernel) (mg_a hl (a := 44) (show jw_fld 34 95 16 = some 39 by decide +kernel) (by decide) (by decide)) ?_
      refine jr_1 jm_262 (show jw_cd cd_262 149 = some (.iload_n 2) by decide +kernel) rfl ?_
      refine jr_1 jm_262 (show jw_cd cd_262 150 = some (.iconst 0) by decide +kernel) rfl ?_
      refine jr_1 jm_262 (show jw_cd cd_262 151 = some (.iastore) by decide +kernel) (ms_i hl (i := k) (x := 0) 39 (by omega) (by show _ < ((400 : Nat) : Int); omega) (by decide) (by decide) (by decide)) ?_
      exact kk
    · rw [su_nf (by decide), su_nf (by decide), e11]
    · rw [su_nf (by decide), su_nf (by decide), e12]
    · rw [su_nf (by decide), su_eq]
      exact rfl
theorem clo_len (top : List lT) : ∀ (b : List (Int × Bool)) (k : Int), (clo top k b).length = b.length
  | [], _ => rfl
  | s :: l, k => by
    show (clo top (k + 1) l).length + 1 = l.length + 1
    rw [clo_len top l (k + 1)]
theorem jn_cl_mid {β : Bool} {d : Nat} {h : jx_H} (hl : 49 ≤ h.length) {A0 B0 : Int → Prop} (hA0 : ∀ v, A0 v → 0 ≤ v ∧ v < 680) (hB0 : ∀ v, B0 v → 0 ≤ v ∧ v < 680) {sp sl : Int} {top : List lT} (hv : ∀ t ∈ top, vokO t.2) (hfr : ∀ t ∈ top, 0 ≤ t.1 ∧ t.1 ≤ 400) (hsl : sp + top.length = sl) (hs4 : sl ≤ 400) : ∀ (b : List (Int × Bool)) (k nn cc : Int) (σ : mS) (c3 c4 c5 : Option Value), tpR σ (zA A0 nn) (zA B0 cc) sp top → bsR σ k b → σ 36 0 = sl → k + b.length = sp → 0 ≤ k → σ 11 4 = nn → σ 12 4 = cc → 0 ≤ nn → 0 ≤ cc → 170 * 4 + nn + b.length ≤ 1740 → 170 * 4 + cc + cge top k ≤ 1740 →
    ∃ (τ : mS) (nn' cc' : Int) (c3' c4' c5' : Option Value), (∀ res, jx_r (jz β) jw_M (d + 1) 262 (158, [some (.ref 15), some (.int (Int32.ofInt (sp))), some (.int (Int32.ofInt (sp))), c3', c4', c5'], [], ml_mk h τ) res → jx_r (jz β) jw_M (d + 1) 262 (40, [some (.ref 15), some (.int (Int32.ofInt (sp))), some (.int (Int32.ofInt (k))), c3, c4, c5], [], ml_mk h σ) res) ∧ clF σ τ nn cc k sp ∧ τ 11 4 = nn' ∧ τ 12 4 = cc' ∧ (nn ≤ nn' ∧ nn' ≤ nn + b.length) ∧ (cc ≤ cc' ∧ cc' ≤ cc + cge top k) ∧ tpR τ (zA A0 nn') (zA B0 cc') k (clo top k b)
  | [], k, nn, cc, σ, c3, c4, c5, hT, hb, e36, hk, hk0, e11, e12, hn0, hc0, hn1, hc1 => by
    have hk : k = sp := by simp at hk; exact hk
    refine ⟨σ, nn, cc, c3, c4, c5, fun res kk => ?_, clF_refl σ nn cc k sp, e11, e12, ⟨by omega, by simp⟩, ⟨by omega, by omega⟩, trivial⟩
    rw [← hk] at kk
    rw [← hk]
    refine jr_1 jm_262 (show jw_cd cd_262 40 = some (.iload_n 2) by decide +kernel) rfl ?_
    refine jr_1 jm_262 (show jw_cd cd_262 41 = some (.iload_n 1) by decide +kernel) rfl ?_
    refine jr_1 jm_262 (show jw_cd cd_262 42 = some (.if_icmp .ge 116) by decide +kernel) (mb_t (q := .ge) (a := k) (b := k) (t := 158) (by show k ≤ k; omega) ⟨by omega, by omega⟩ ⟨by omega, by omega⟩ (by decide) (by decide)) ?_
    exact kk
  | (f0, fb) :: b, k, nn, cc, σ, c3, c4, c5, hT, hb, e36, hk, hk0, e11, e12, hn0, hc0, hn1, hc1 => by
    have hlen : ((((f0, fb) :: b).length : Nat) : Int) = b.length + 1 := by simp
    rw [hlen] at hk hn1
    have hcs := cge_s k top
    obtain ⟨τ1, n1, c1, d3, d4, d5, r1, r2, r3, r4, r5, r6, r7⟩ := jn_cl_item (β := β) (d := d) (h := h) (c3 := c3) (c4 := c4) (c5 := c5) (k := k) hl hA0 hB0 hT hv hfr hb.1.2 e36 hsl hs4 ⟨hk0, by omega⟩ e11 e12 hn0 hc0 (by omega) (by omega)
    obtain ⟨τ, n2, c2, g3, g4, g5, y1, y2, y3, y4, y5, y6, y7⟩ := jn_cl_mid (β := β) (d := d) hl hA0 hB0 hv hfr hsl hs4 b (k + 1) n1 c1 τ1 d3 d4 d5 (tpR_fr (fun w x hx => mO_cl hA0 hB0 hn0 hc0 r2 r5.1 r6.1 hx) top sp (fun j j1 j2 => ⟨(r2.2.2.1 j (by omega)).1, by rw [r2.2.2.2.1 38 (by decide)]⟩) hT) (bsR_fr b (k + 1) (fun j j1 j2 => ⟨by rw [r2.2.2.2.1 38 (by decide)], (r2.2.2.1 j (by omega)).2⟩) hb.2) (by rw [r2.2.2.2.1 36 (by decide)]; exact e36) (by omega) (by omega) r3 r4 (by omega) (by omega) (by omega) (by omega)
    refine ⟨τ, n2, c2, g3, g4, g5, fun res kk => r1 _ ?_, clF_trans r2 y2 r5.1 r6.1 (Int.le_refl k) (by omega) (by omega) (Int.le_refl sp), y3, y4, ⟨by omega, by omega⟩, ⟨by omega, by omega⟩, ⟨⟨?_, ?_⟩, y7⟩⟩
    · have y1 := y1 res kk
      refine jr_1 jm_262 (F2 := (155, [some (.ref 15), some (.int (Int32.ofInt (sp))), some (.int (Int32.ofInt (k + 1))), d3, d4, d5], [], ml_mk h τ1)) (show jw_cd cd_262 152 = some (.iinc 2 1) by decide +kernel) (mt_inc (a := k) (c := k + 1) rfl (by omega) rfl) ?_
      refine jr_1 jm_262 (show jw_cd cd_262 155 = some (.goto (-115)) by decide +kernel) (ju_go (t := 40) (by decide)) ?_
      exact y1
    · rw [y2.2.2.2.1 38 (by decide), r2.2.2.2.1 38 (by decide)]
      exact hb.1.1
    · rw [(y2.2.2.1 k (by omega)).1]
      exact mO_cl hA0 hB0 (by omega) (by omega) y2 y5.1 y6.1 r7
