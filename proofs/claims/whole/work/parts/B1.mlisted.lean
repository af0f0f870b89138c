/-! ===== the model's listed, and small words (printed by program: gen34.py) ===== -/
theorem mV_jn {τ τ' : mS} {L z w : Int} {A B D : Int → Prop} {i : tI} {c : FT} (hj : jnF τ τ' L z D) (hA : ¬ A L) (hB : ¬ B z) (hD : ∀ x, D x → ¬ B x) (h : mV τ A B w i c) : mV τ' A B w i c := by
  obtain ⟨j1, j2, j3, j4, j5⟩ := hj
  have hA3 : ∀ v, A v → τ' 3 v = τ 3 v ∧ τ' 4 v = τ 4 v ∧ τ' 5 v = τ 5 v ∧ τ' 6 v = τ 6 v ∧ τ' 7 v = τ 7 v := fun v hv => by
    have hne : ¬ v = L := fun e => hA (by rw [← e]; exact hv)
    exact ⟨j1 3 v (by decide) (by decide) hne, j1 4 v (by decide) (by decide) hne, j1 5 v (by decide) (by decide) hne, j1 6 v (by decide) (by decide) hne, j1 7 v (by decide) (by decide) hne⟩
  have hB3 : ∀ x, B x → τ' 8 x = τ 8 x ∧ τ' 9 x = τ 9 x ∧ τ' 10 x = τ 10 x := fun x hx => by
    have h1 : ¬ x = z := fun e => hB (by rw [← e]; exact hx)
    have h2 : ¬ D x := fun hd => hD x hd hx
    exact ⟨j3 8 x (by decide) (by decide) h1 h2, j3 9 x (by decide) (by decide) h1 h2, j3 10 x (by decide) (by decide) h1 h2⟩
  obtain ⟨a1, ⟨n1, n2, n3, n4⟩, hF⟩ := h
  obtain ⟨x1, x2, x3, x4, x5⟩ := hA3 w a1
  exact ⟨a1, ⟨x1.trans n1, x2.trans n2, x3.trans n3, x5.trans n4⟩, by rw [x4]; exact mF_frame hA3 hB3 c _ hF⟩
/-- the row u holds, from k on, the nodes of these values -/
def qV (τ : mS) (A B : Int → Prop) (u : Int → Int) : Int → List (tI × FT) → Prop
  | _, [] => True
  | k, (i, c) :: l => mV τ A B (u k) i c ∧ qV τ A B u (k + 1) l
theorem qV_jn {τ τ' : mS} {L z : Int} {A B D : Int → Prop} {u : Int → Int} (hj : jnF τ τ' L z D) (hA : ¬ A L) (hB : ¬ B z) (hD : ∀ x, D x → ¬ B x) : ∀ (l : List (tI × FT)) (k : Int), qV τ A B u k l → qV τ' A B u k l
  | [], _, _ => trivial
  | (i, c) :: l, k, h => ⟨mV_jn hj hA hB hD h.1, qV_jn hj hA hB hD l (k + 1) h.2⟩
theorem mV_new {τ : mS} {A B : Int → Prop} {w k x t N : Int} {i : tI} {c : FT} (hN : 170 * 4 + τ 11 4 = N) (hA : ¬ A N) (h : mV τ A B w i c) : mV (mNode τ 4 k x t) A B w i c := by
  have hA3 : ∀ v, A v → mNode τ 4 k x t 3 v = τ 3 v ∧ mNode τ 4 k x t 4 v = τ 4 v ∧ mNode τ 4 k x t 5 v = τ 5 v ∧ mNode τ 4 k x t 6 v = τ 6 v ∧ mNode τ 4 k x t 7 v = τ 7 v := fun v hv => by
    have hne : ¬ v = N := fun e => hA (by rw [← e]; exact hv)
    rw [mNode_3, mNode_4, mNode_5, mNode_6, mNode_7, hN, if_neg hne, if_neg hne, if_neg hne, if_neg hne, if_neg hne]
    exact ⟨rfl, rfl, rfl, rfl, rfl⟩
  obtain ⟨a1, ⟨n1, n2, n3, n4⟩, hF⟩ := h
  obtain ⟨x1, x2, x3, x4, x5⟩ := hA3 w a1
  exact ⟨a1, ⟨x1.trans n1, x2.trans n2, x3.trans n3, x5.trans n4⟩, by rw [x4]; exact mF_frame hA3 (fun _ _ => by rw [mNode_o (by decide), mNode_o (by decide), mNode_o (by decide)]; exact ⟨rfl, rfl, rfl⟩) c _ hF⟩
theorem qV_new {τ : mS} {A B : Int → Prop} {k x t N : Int} {u : Int → Int} (hN : 170 * 4 + τ 11 4 = N) (hA : ¬ A N) : ∀ (l : List (tI × FT)) (j : Int), qV τ A B u j l → qV (mNode τ 4 k x t) A B u j l
  | [], _, _ => trivial
  | (i, c) :: l, j, h => ⟨mV_new hN hA h.1, qV_new hN hA l (j + 1) h.2⟩
/-- what a new list leaves alone -/
def ldF (τ τ' : mS) (L z0 z1 : Int) : Prop := (∀ f v, 3 ≤ f → f ≤ 7 → ¬ v = L → τ' f v = τ f v) ∧ (∀ f x, 8 ≤ f → f ≤ 10 → ¬ In z0 z1 x → τ' f x = τ f x) ∧ (∀ f, f ∉ [3, 4, 5, 6, 7, 8, 9, 10, 11, 12] → τ' f = τ f) ∧ (∀ v, ¬ v = 4 → τ' 11 v = τ 11 v ∧ τ' 12 v = τ 12 v)
theorem jn_li_loop {β : Bool} {d : Nat} {h : jx_H} (hl : 49 ≤ h.length) {A B : Int → Prop} {m L z0 : Int} (hL : 0 ≤ L ∧ L < 1740) (hm : 0 ≤ m ∧ m ≤ 400) (hz0 : 680 ≤ z0) (hBz : ∀ x, B x → ¬ In z0 (z0 + m) x) : ∀ (l2 : List (tI × FT)) (l1 : List (tI × FT)) (j cc bh : Int) (τ : mS) (D : Int → Prop), lb τ L (fl l1) bh A B D → (∀ x, D x → In z0 (170 * 4 + cc) x) → qV τ A B (τ 43) j l2 → j + l2.length = m → j = l1.length → τ 12 4 = cc → 170 * 4 + cc = z0 + j → 170 * 4 + cc + l2.length ≤ 1740 →
    ∃ (τ' : mS) (bh' : Int) (D' : Int → Prop), jx_r (jz β) jw_M (d + 1) 252 (14, [some (.ref 15), some (.int (Int32.ofInt (m))), some (.int (Int32.ofInt (L))), some (.int (Int32.ofInt (bh))), some (.int (Int32.ofInt (j)))], [], ml_mk h τ) (ml_mk h (τ'), .inl (some (.int (Int32.ofInt (L))))) ∧ lb τ' L (fl (l1 ++ l2)) bh' A B D' ∧ (∀ x, D' x → In z0 (z0 + m) x) ∧ τ' 12 4 = cc + l2.length ∧ (∀ f v, 3 ≤ f → f ≤ 7 → ¬ v = L → τ' f v = τ f v) ∧ (∀ f x, 8 ≤ f → f ≤ 10 → ¬ In z0 (z0 + m) x → τ' f x = τ f x) ∧ (∀ f, f ∉ [6, 7, 8, 9, 10, 12] → τ' f = τ f) ∧ (∀ v, ¬ v = 4 → τ' 12 v = τ 12 v)
  | [], l1, j, cc, bh, τ, D, hb, hD, hq, hj, hj1, e12, hzz, hr => by
    have hj : j = m := by simp at hj; exact hj
    obtain ⟨m0, m1⟩ := hm
    refine ⟨τ, bh, D, ?_, by rw [List.append_nil]; exact hb, fun x hx => by have := hD x hx; rw [hzz, hj] at this; exact this, by simp; exact e12, fun _ _ _ _ _ => rfl, fun _ _ _ _ _ => rfl, fun _ _ => rfl, fun _ _ => rfl⟩
    refine jr_1 jm_252 (show jw_cd cd_252 14 = some (.iload 4) by decide +kernel) rfl ?_
    refine jr_1 jm_252 (show jw_cd cd_252 16 = some (.iload_n 1) by decide +kernel) rfl ?_
    refine jr_1 jm_252 (show jw_cd cd_252 17 = some (.if_icmp .ge 25) by decide +kernel) (mb_t (q := .ge) (a := j) (b := m) (t := 42) (by show m ≤ j; omega) ⟨by omega, by omega⟩ ⟨by omega, by omega⟩ (by decide) (by decide)) ?_
    refine jr_1 jm_252 (show jw_cd cd_252 42 = some (.iload_n 2) by decide +kernel) rfl ?_
    exact jr_v jm_252 (show jw_cd cd_252 43 = some (.ireturn) by decide +kernel) rfl
  | (i, c) :: l2, l1, j, cc, bh, τ, D, hb, hD, hq, hj, hj1, e12, hzz, hr => by
    obtain ⟨m0, m1⟩ := hm
    obtain ⟨L0, L1⟩ := hL
    have hlen : ((((i, c) :: l2).length : Nat) : Int) = l2.length + 1 := by simp
    rw [hlen] at hj hr
    have hc0 : 0 ≤ cc := by omega
    obtain ⟨lf, li, k1, k2, k3⟩ := lb_lk hb
    have hzB : ¬ B (170 * 4 + cc) := fun hx => hBz _ hx ⟨by omega, by omega⟩
    have hzD : ¬ D (170 * 4 + cc) := fun hx => by have := (hD _ hx).2; omega
    have hAL : ¬ A L := hb.2.2.2.2.1
    have hDB := hb.2.2.2.1
    obtain ⟨b1, b2, b3⟩ := lb_join hb hq.1 k2 k3 (z := 170 * 4 + cc) (by rw [e12]) ⟨by omega, by omega⟩ hzB hzD
    obtain ⟨j1, j2, j3, j4, j5⟩ := id b2
    have hv := hq.1.1
    obtain ⟨τ1, hτ1⟩ : ∃ τ1, τ1 = mJoin τ 4 L lf li (τ 43 j) 0 := ⟨_, rfl⟩
    rw [← hτ1] at b1 b2 b3 j1 j2 j3 j4 j5
    obtain ⟨τ', bh', D', r1, r2, r3, r4, r5, r6, r7, r8⟩ := jn_li_loop (β := β) (d := d) hl ⟨L0, L1⟩ ⟨m0, m1⟩ hz0 hBz l2 (l1 ++ [(i, c)]) (j + 1) (cc + 1) (170 * 4 + cc) τ1 (fun x => D x ∨ x = 170 * 4 + cc) (by rw [fl_snoc]; exact b1) (fun x hx => by
      rcases hx with hx | rfl
      · exact ⟨(hD x hx).1, by have := (hD x hx).2; omega⟩
      · exact ⟨by omega, by omega⟩) (by rw [j4 43 (by decide)]; exact qV_jn b2 hAL hzB hDB l2 (j + 1) hq.2) (by omega) (by simp; omega) (by rw [b3, e12]) (by omega) (by omega)
    have hmz : ∀ x, ¬ In z0 (z0 + m) x → ¬ x = 170 * 4 + cc ∧ ¬ D x := fun x hx => ⟨fun e => hx ⟨by omega, by omega⟩, fun hd => hx ⟨(hD x hd).1, by have := (hD x hd).2; omega⟩⟩
    refine ⟨τ', bh', D', ?_, by rw [List.append_assoc] at r2; exact r2, r3, by rw [r4, hlen]; omega, fun f v f1 f2 hv => (r5 f v f1 f2 hv).trans (j1 f v f1 f2 hv), fun f x f1 f2 hx => (r6 f x f1 f2 hx).trans (j3 f x f1 f2 (hmz x hx).1 (hmz x hx).2), fun f hf => (r7 f hf).trans (j4 f hf), fun v hv => (r8 v hv).trans (j5 v hv)⟩
    refine jr_1 jm_252 (show jw_cd cd_252 14 = some (.iload 4) by decide +kernel) rfl ?_
    refine jr_1 jm_252 (show jw_cd cd_252 16 = some (.iload_n 1) by decide +kernel) rfl ?_
    refine jr_1 jm_252 (show jw_cd cd_252 17 = some (.if_icmp .ge 25) by decide +kernel) (mb_f (q := .ge) (a := j) (b := m) (by show ¬ (m ≤ j); omega) ⟨by omega, by omega⟩ ⟨by omega, by omega⟩ (by decide)) ?_
    refine jr_1 jm_252 (show jw_cd cd_252 20 = some (.aload_n 0) by decide +kernel) rfl ?_
    refine jr_1 jm_252 (show jw_cd cd_252 21 = some (.iconst 4) by decide +kernel) rfl ?_
    refine jr_1 jm_252 (show jw_cd cd_252 22 = some (.iload_n 2) by decide +kernel) rfl ?_
    refine jr_1 jm_252 (show jw_cd cd_252 23 = some (.iload_n 3) by decide +kernel) rfl ?_
    refine jr_1 jm_252 (show jw_cd cd_252 24 = some (.aload_n 0) by decide +kernel) rfl ?_
    refine jr_1 jm_252 (show jw_cd cd_252 25 = some (.getfield 101) by decide +kernel) (mg_a hl (a := 46) (show jw_fld 34 101 16 = some 43 by decide +kernel) (by decide) (by decide)) ?_
    refine jr_1 jm_252 (show jw_cd cd_252 28 = some (.iload 4) by decide +kernel) rfl ?_
    refine jr_1 jm_252 (show jw_cd cd_252 30 = some (.iaload) by decide +kernel) (ma_i hl (i := j) (e := τ 43 j) 43 (by omega) (by show _ < ((400 : Nat) : Int); omega) rfl (by decide) (by decide) (by decide)) ?_
    refine jr_1 jm_252 (F2 := (32, [some (.ref 15), some (.int (Int32.ofInt (m))), some (.int (Int32.ofInt (L))), some (.int (Int32.ofInt (bh))), some (.int (Int32.ofInt (j)))], [.long (Int64.ofInt (0)), .int (Int32.ofInt (τ 43 j)), .int (Int32.ofInt (bh)), .int (Int32.ofInt (L)), .int (Int32.ofInt (4)), .ref 15], ml_mk h τ)) (show jw_cd cd_252 31 = some (.lconst 0) by decide +kernel) rfl ?_
    refine jr_c jm_252 (show jw_cd cd_252 32 = some (.invokevirtual 128) by decide +kernel) (mc_v hl (n := 5) (m2 := 229) (bs := [.int (Int32.ofInt (4)), .int (Int32.ofInt (L)), .int (Int32.ofInt (bh)), .int (Int32.ofInt (τ 43 j)), .long (Int64.ofInt (0))]) (r := []) (show jw_find jw_cvT 34 128 = some (5, [(16, 229)]) by decide +kernel) (by decide) rfl rfl rfl) jm_229 ⟨Nat.le_of_ble_eq_true rfl, by decide⟩ (jn_joinM hl ⟨by decide, by decide⟩ (m := cc) e12 hc0 (by omega) ⟨by omega, by omega⟩ k1) ?_
    refine jr_1 jm_252 (F2 := (36, [some (.ref 15), some (.int (Int32.ofInt (m))), some (.int (Int32.ofInt (L))), some (.int (Int32.ofInt (170 * 4 + cc))), some (.int (Int32.ofInt (j)))], [], ml_mk h (mJoin τ 4 L lf li (τ 43 j) 0))) (show jw_cd cd_252 35 = some (.istore_n 3) by decide +kernel) rfl ?_
    refine jr_1 jm_252 (F2 := (39, [some (.ref 15), some (.int (Int32.ofInt (m))), some (.int (Int32.ofInt (L))), some (.int (Int32.ofInt (170 * 4 + cc))), some (.int (Int32.ofInt (j + 1)))], [], ml_mk h (mJoin τ 4 L lf li (τ 43 j) 0))) (show jw_cd cd_252 36 = some (.iinc 4 1) by decide +kernel) (mt_inc (a := j) (c := j + 1) rfl (by omega) rfl) ?_
    refine jr_1 jm_252 (show jw_cd cd_252 39 = some (.goto (-25)) by decide +kernel) (ju_go (t := 14) (by decide)) ?_
    rw [← hτ1]
    exact r1
theorem jn_listed {β : Bool} {d : Nat} {h : jx_H} (hl : 49 ≤ h.length) {A B : Int → Prop} {τ : mS} {nn cc m : Int} {l : List (tI × FT)} (e11 : τ 11 4 = nn) (hn0 : 0 ≤ nn) (hn1 : 170 * 4 + nn < 1740) (e12 : τ 12 4 = cc) (hc0 : 0 ≤ cc) (hm : m = l.length) (hm4 : m ≤ 400) (hc1 : 170 * 4 + cc + m ≤ 1740) (hA : ¬ A (170 * 4 + nn)) (hB : ∀ x, B x → ¬ In (170 * 4 + cc) (170 * 4 + cc + m) x) (hq : qV τ A B (τ 43) 0 l) : ∃ τ', jx_r (jz β) jw_M (d + 1) 252 (0, [some (.ref 15), some (.int (Int32.ofInt (m))), none, none, none], [], ml_mk h τ) (ml_mk h (τ'), .inl (some (.int (Int32.ofInt (170 * 4 + nn))))) ∧ mV τ' (fun v => A v ∨ v = 170 * 4 + nn) (fun x => B x ∨ In (170 * 4 + cc) (170 * 4 + cc + m) x) (170 * 4 + nn) (5, 0, [], []) (fl l) ∧ τ' 11 4 = nn + 1 ∧ τ' 12 4 = cc + m ∧ ldF τ τ' (170 * 4 + nn) (170 * 4 + cc) (170 * 4 + cc + m) := by
  have hN : 170 * 4 + τ 11 4 = 170 * 4 + nn := by rw [e11]
  have h12 : mNode τ 4 5 0 0 12 = τ 12 := mNode_o (by decide)
  have h43 : mNode τ 4 5 0 0 43 = τ 43 := mNode_o (by decide)
  obtain ⟨τ', bh', D', r1, r2, r3, r4, r5, r6, r7, r8⟩ := jn_li_loop (β := β) (d := d) hl (A := A) (B := B) (m := m) (L := 170 * 4 + nn) (z0 := 170 * 4 + cc) ⟨by omega, by omega⟩ ⟨by omega, hm4⟩ (by omega) hB l [] 0 cc (-1) (mNode τ 4 5 0 0) (fun _ => False) (lb_new hA ⟨by rw [mNode_3, hN, if_pos rfl], by rw [mNode_4, hN, if_pos rfl], by rw [mNode_5, hN, if_pos rfl]; rfl, by rw [mNode_7, hN, if_pos rfl]; rfl⟩ (by rw [mNode_6, hN, if_pos rfl])) (fun _ h => absurd h id) (by rw [h43]; exact qV_new hN hA l 0 hq) (by omega) rfl (by rw [h12]; exact e12) (by omega) (by omega)
  refine ⟨τ', ?_, lb_fin r2 (fun v hv => Or.inl hv) (fun x hx => Or.inl hx) (fun x hx => Or.inr (r3 x hx)) (Or.inr rfl), ?_, by rw [r4, hm], fun f v f1 f2 hv => ?_, fun f x f1 f2 hx => ?_, fun f hf => ?_, fun v hv => ?_⟩
  · skip
    refine jr_1 jm_252 (show jw_cd cd_252 0 = some (.aload_n 0) by decide +kernel) rfl ?_
    refine jr_1 jm_252 (show jw_cd cd_252 1 = some (.iconst 4) by decide +kernel) rfl ?_
    refine jr_1 jm_252 (show jw_cd cd_252 2 = some (.iconst 5) by decide +kernel) rfl ?_
    refine jr_1 jm_252 (show jw_cd cd_252 3 = some (.iconst 0) by decide +kernel) rfl ?_
    refine jr_1 jm_252 (F2 := (5, [some (.ref 15), some (.int (Int32.ofInt (m))), none, none, none], [.long (Int64.ofInt (0)), .int (Int32.ofInt (0)), .int (Int32.ofInt (5)), .int (Int32.ofInt (4)), .ref 15], ml_mk h τ)) (show jw_cd cd_252 4 = some (.lconst 0) by decide +kernel) rfl ?_
    refine jr_c jm_252 (show jw_cd cd_252 5 = some (.invokevirtual 110) by decide +kernel) (mc_v hl (n := 4) (m2 := 208) (bs := [.int (Int32.ofInt (4)), .int (Int32.ofInt (5)), .int (Int32.ofInt (0)), .long (Int64.ofInt (0))]) (r := []) (show jw_find jw_cvT 34 110 = some (4, [(16, 208)]) by decide +kernel) (by decide) rfl rfl rfl) jm_208 ⟨Nat.le_of_ble_eq_true rfl, by decide⟩ (jn_nodeM hl ⟨by decide, by decide⟩ (m := nn) e11 hn0 (by omega)) ?_
    refine jr_1 jm_252 (F2 := (9, [some (.ref 15), some (.int (Int32.ofInt (m))), some (.int (Int32.ofInt (170 * 4 + nn))), none, none], [], ml_mk h (mNode τ 4 5 0 0))) (show jw_cd cd_252 8 = some (.istore_n 2) by decide +kernel) rfl ?_
    refine jr_1 jm_252 (show jw_cd cd_252 9 = some (.iconst (-1)) by decide +kernel) rfl ?_
    refine jr_1 jm_252 (F2 := (11, [some (.ref 15), some (.int (Int32.ofInt (m))), some (.int (Int32.ofInt (170 * 4 + nn))), some (.int (Int32.ofInt (-1))), none], [], ml_mk h (mNode τ 4 5 0 0))) (show jw_cd cd_252 10 = some (.istore_n 3) by decide +kernel) rfl ?_
    refine jr_1 jm_252 (show jw_cd cd_252 11 = some (.iconst 0) by decide +kernel) rfl ?_
    refine jr_1 jm_252 (F2 := (14, [some (.ref 15), some (.int (Int32.ofInt (m))), some (.int (Int32.ofInt (170 * 4 + nn))), some (.int (Int32.ofInt (-1))), some (.int (Int32.ofInt (0)))], [], ml_mk h (mNode τ 4 5 0 0))) (show jw_cd cd_252 12 = some (.istore 4) by decide +kernel) rfl ?_
    exact r1
  · rw [r7 11 (by decide), mNode_11, if_pos rfl, e11]
  · rw [r5 f v f1 f2 hv]
    obtain rfl | rfl | rfl | rfl | rfl : f = 3 ∨ f = 4 ∨ f = 5 ∨ f = 6 ∨ f = 7 := by omega
    · rw [mNode_3, hN, if_neg hv]
    · rw [mNode_4, hN, if_neg hv]
    · rw [mNode_5, hN, if_neg hv]
    · rw [mNode_6, hN, if_neg hv]
    · rw [mNode_7, hN, if_neg hv]
  · rw [r6 f x f1 f2 hx, mNode_o (by simp; omega)]
  · simp only [List.mem_cons, List.mem_nil_iff, or_false, not_or] at hf
    rw [r7 f (by simp; omega), mNode_o (by simp; omega)]
  · rw [r7 11 (by decide), mNode_11, if_neg hv, r8 v hv, h12]
    exact ⟨rfl, rfl⟩
